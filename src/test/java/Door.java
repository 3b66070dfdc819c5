import java.util.ArrayList;
import java.util.List;

/** What the tests share: texts are written as words, and a word @5 or @2,5 ahead of a token says which faults stand there. */
final class Door {
  static final String WORDS = "class interface abstract static final extends implements throws package import void "
      + "boolean byte int long if else while do break continue return throw try catch finally new this super null true "
      + "false instanceof tell { } ( ) ; , . = += + - * div % < <= == != ! && || ? : "
      + "Object Integer Throw Slip Divide Null Cast";
  private static int wrong = 0;

  private Door() {
  }

  /** Something that throws. */
  interface Call {
    void make();
  }

  static int token(String word) {
    String[] words = WORDS.split(" ");
    for (int k = 0; k < words.length; k++) {
      if (words[k].equals(word)) return k;
    }
    char first = word.charAt(0);
    if (Character.isDigit(first)) return 1000 + Integer.parseInt(word);
    if (word.length() != 1) throw new IllegalArgumentException(word);
    return first >= 'a' && first <= 'z' ? 100 + first - 'a' : 126 + first - 'A';
  }

  /** The place of the n-th (from 0 on) token of that word in a text. */
  static int place(String text, String word, int n) {
    int place = 0;
    int left = n;
    for (String each : plain(text)) {
      if (each.equals(word) && left-- == 0) return place;
      place++;
    }
    throw new IllegalArgumentException(word);
  }

  static List<String> plain(String text) {
    List<String> words = new ArrayList<>();
    for (String word : text.trim().split("\\s+")) {
      if (!word.isEmpty() && word.charAt(0) != '@') words.add(word);
    }
    return words;
  }

  /** Types a text, five tokens a call, as an object is good for just so many calls. */
  static void type(Sourcedoor door, int unit, String text) {
    List<String> words = plain(text);
    for (int k = 0; k < words.size(); k += 5) {
      int[] five = new int[5];
      for (int n = 0; n < 5; n++) five[n] = k + n < words.size() ? token(words.get(k + n)) : -1;
      door.type(unit, five[0], five[1], five[2], five[3], five[4]);
    }
  }

  /** A text so many times, one behind the other. */
  static String times(int many, String text) {
    StringBuilder all = new StringBuilder();
    for (int k = 0; k < many; k++) all.append(text).append(' ');
    return all.toString();
  }

  static Sourcedoor world(String... units) {
    Sourcedoor door = new Sourcedoor();
    for (int unit = 0; unit < units.length; unit++) type(door, unit, units[unit]);
    return door;
  }

  /** The faults that the marks of a text ask for. */
  static String marked(String text) {
    StringBuilder faults = new StringBuilder();
    int place = 0;
    for (String word : text.trim().split("\\s+")) {
      if (word.isEmpty()) continue;
      if (word.charAt(0) != '@') {
        place++;
        continue;
      }
      for (String number : word.substring(1).split(",")) {
        if (faults.length() > 0) faults.append(' ');
        faults.append(number).append('@').append(place);
      }
    }
    return faults.toString();
  }

  /** Types the texts, and looks for just the faults that are marked in them. */
  static Sourcedoor faults(String... units) {
    Sourcedoor door = world(units);
    for (int unit = 0; unit < units.length; unit++) due("faults of " + units[unit], door.faults(unit), marked(units[unit]));
    return door;
  }

  /** A class with a method that has this body. */
  static Sourcedoor body(String body) {
    return faults("class a { int k ; static int n ; void f ( int x , Object y ) { " + body + " } }");
  }

  static void due(String what, Object got, Object want) {
    if (want.equals(got)) return;
    wrong++;
    System.out.println(what + " answered " + got + ", due is " + want);
  }

  static void throwing(String what, Class<? extends RuntimeException> want, Call call) {
    try {
      call.make();
    } catch (RuntimeException e) {
      if (e.getClass() == want) return;
      wrong++;
      System.out.println(what + " threw " + e + ", due is " + want);
      return;
    }
    wrong++;
    System.out.println(what + " threw nothing, due is " + want);
  }

  static void end() {
    System.out.println(wrong == 0 ? "all answers are as due" : wrong + " answers are not as due");
    if (wrong != 0) System.exit(1);
  }
}
