import java.util.ArrayList;
import java.util.List;

/** All answers of the class against the second reading of the document (see Reading), of worlds that were grown at random. */
public final class GrownTest {
  private static final long SEED = 8121119;

  public static void main(String[] args) {
    compare(new WorldGrower(SEED), 2400);
    compare(new FlowGrower(SEED), 1200);
    compare(new TypeGrower(SEED), 900);
    compare(new ConstantGrower(SEED), 900);
    Door.end();
  }

  /** Each world as it was grown, and of three two with some words of it mixed, too. */
  private static void compare(Grower grower, int many) {
    int wellBefore = ReadingTest.well;
    for (int k = 0; k < many; k++) {
      String[] world = grower.grow();
      ReadingTest.compare(world);
      if (k % 3 != 0) ReadingTest.compare(mixed(world, grower.below(world.length)));
    }
    int well = ReadingTest.well - wellBefore;
    Door.due("some of " + grower.getClass() + " are well, some are not", well > many / 100 && well < many, true);
  }

  private static String[] mixed(String[] world, int unit) {
    List<String> words = new ArrayList<>(Door.plain(world[unit]));
    if (!words.isEmpty()) ReadingTest.mix(words);
    world[unit] = String.join(" ", words.subList(0, Math.min(words.size(), Grower.MOST)));
    return world;
  }
}
