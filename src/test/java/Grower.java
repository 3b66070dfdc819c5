import java.util.ArrayList;
import java.util.Arrays;
import java.util.List;
import java.util.Random;

/** What all that grow texts at random share: chance, and a text that is written word by word. */
abstract class Grower {
  static final int MOST = 240;
  private final Random chance;
  private StringBuilder text = new StringBuilder();
  private int words;

  Grower(long seed) {
    chance = new Random(seed);
  }

  /** A new world, the texts of its units. */
  abstract String[] grow();

  int below(int many) {
    return chance.nextInt(many);
  }

  /** True so many times in a hundred. */
  boolean often(int times) {
    return chance.nextInt(100) < times;
  }

  String one(String... words) {
    return words[chance.nextInt(words.length)];
  }

  <T> T oneOf(List<T> list) {
    return list.get(chance.nextInt(list.size()));
  }

  void write(String more) {
    for (String word : more.split(" ")) {
      if (word.isEmpty()) continue;
      text.append(words == 0 ? "" : " ").append(word);
      words++;
    }
  }

  int written() {
    return words;
  }

  /** Whether something was written behind a place of the text, as that a break leaves a loop. */
  boolean hasBehind(int place, String word) {
    return Arrays.asList(text.toString().split(" ")).subList(Math.min(place, words), words).contains(word);
  }

  /** Takes what was written; what a unit has no room for is left out. */
  String take() {
    String[] all = text.toString().split(" ");
    text = new StringBuilder();
    words = 0;
    return String.join(" ", Arrays.copyOf(all, Math.min(all.length, MOST)));
  }

  /** So many things with "," between. */
  void list(List<String> things) {
    for (int k = 0; k < things.size(); k++) write((k == 0 ? "" : ", ") + things.get(k));
  }

  List<String> some(int many, String... from) {
    List<String> things = new ArrayList<>();
    for (int k = 0; k < many; k++) things.add(one(from));
    return things;
  }
}
