/** The whole (promises 42 to 46), and a fuzz of texts that must stay sound. */
public final class HouseTest {
  public static void main(String[] args) {
    counts();
    sound();
    digests();
    mixed();
    Door.end();
  }

  private static void counts() {
    Sourcedoor door = new Sourcedoor();
    Door.due("blank", door.blank(), -9);
    Door.due("knock", door.knock(), 1);
    Door.due("knock", door.knock(), 2);
    Door.due("run", door.run(0, 0, 0), -9);
    int[] empty = {0, 0, 0, 4, 2, 2, 0};
    for (int what = 0; what < 7; what++) Door.due("house " + what, door.house(what), empty[what]);
    door.sample(0, 0);
    door.sample(2, 4);
    Door.type(door, 1, "class b { int k = z ; }");
    door.run(0, 1, 1);
    int[] full = {93 + 82 + 9, 3, 1, 3, 3, 2, 0};
    for (int what = 0; what < 7; what++) Door.due("house " + what, door.house(what), full[what]);
    door.cut(1, 240);
    door.run(0, 1, 1);
    door.run(2, 1, 1);
    Door.due("runs", door.house(6), 2);
    Door.due("refused", door.house(4), 3);
    Door.throwing("house 7", IllegalArgumentException.class, () -> door.house(7));
    Door.throwing("house -1", IllegalArgumentException.class, () -> door.house(-1));
  }

  private static void sound() {
    Sourcedoor door = new Sourcedoor();
    Door.due("sound", door.isSound(), true);
    for (int k = 0; k < 4; k++) {
      door.sample(k, k);
      Door.due("sound", door.isSound(), true);
    }
    Door.type(door, 3, "class");
    Door.due("sound though it is not well", door.isSound(), true);
    Door.due("no run", door.outcome(0), -1);
    Sourcedoor turned = Door.world("class a { a ( ) { } int f ( ) { return 1 ; } static int M ( int x , int y ) { return new a ( ) . f ( ) ; } int k = 2 ; a ( int x ) { } }",
        "class b { static void M ( int x , int y ) { tell x ; } b ( ) { } }");
    String text = turned.text(0) + turned.text(1);
    Door.due("sound", turned.isSound(), true);
    Door.due("the texts stay", turned.text(0) + turned.text(1), text);
    turned.change(0, 1, 100);
    turned.digest();
    Door.due("the texts stay behind a digest", turned.text(0) + turned.text(1), text);
    Door.due("they are well", turned.house(3), 4);
  }

  private static long add(long d, long v) {
    return d * 31 + v;
  }

  private static long add(long d, String text) {
    long sum = d;
    for (int k = 0; k < text.length(); k++) sum = sum * 31 + text.charAt(k);
    return sum;
  }

  /** The digest, computed by what the other calls answer. */
  private static long digest(Sourcedoor door) {
    long d = 7673;
    for (int what = 0; what <= 6; what++) d = add(d, door.house(what));
    for (int unit = 0; unit < 4; unit++) {
      for (int what = 0; what <= 5; what++) d = add(d, door.ofUnit(unit, what));
      d = add(add(d, door.faults(unit)), door.types(unit));
      for (int k = 0; k < door.ofUnit(unit, 1); k++) {
        for (int what = 0; what <= 7; what++) d = add(d, door.ofType(unit, k, what));
        d = add(add(d, door.above(unit, k)), door.methods(unit, k));
      }
      for (int place = 0; place < door.ofUnit(unit, 0); place++) {
        d = add(add(add(d, door.meant(unit, place).length()), door.kind(unit, place).length()), door.value(unit, place).length());
        d = add(add(add(d, door.phase(unit, place)), door.applies(unit, place)), door.reached(unit, place));
        d = add(d, door.raised(unit, place).length());
      }
    }
    for (int what = 0; what <= 6; what++) d = add(d, door.outcome(what));
    return add(add(add(d, door.output()), door.result()), door.isSound() ? 1 : 0);
  }

  private static void digests() {
    Sourcedoor door = new Sourcedoor();
    Door.due("digest of an empty one", door.digest(), digest(door));
    for (int k = 0; k < 5; k++) {
      door.sample(k % 4, k);
      door.run(k % 4, k, 3);
      door.knock();
      Door.due("digest " + k, door.digest(), digest(door));
    }
    Door.type(door, 1, "class b extends z { int f ( ) { return 1 + true ; } a ( ) { } }");
    Door.due("digest with faults", door.digest(), digest(door));
    Door.type(door, 2, "import");
    Door.due("digest with a fault of syntax", door.digest(), digest(door));
  }

  /** Known texts with tokens changed at random places: nothing throws, all stays sound, and queries change nothing. */
  private static void mixed() {
    long seed = 12345;
    for (int round = 0; round < 150; round++) {
      Sourcedoor door = new Sourcedoor();
      for (int unit = 0; unit < 4; unit++) {
        seed = seed * 6364136223846793005L + 1442695040888963407L;
        door.sample(unit, (int) (seed >>> 33) % 5);
      }
      for (int k = 0; k < 3; k++) {
        seed = seed * 6364136223846793005L + 1442695040888963407L;
        int unit = (int) (seed >>> 60) & 3;
        int many = door.ofUnit(unit, 0);
        int from = (int) (seed >>> 33) % many;
        int to = (int) (seed >>> 20 & 0xffff) % many;
        if ((seed >>> 50 & 1) == 0) door.change(unit, to, door.token(unit, from));
        else door.insert(unit, to, door.token(unit, from));
      }
      long d = door.digest();
      if (round % 10 == 0) Door.due("digest of a mixed world", d, digest(door));
      Door.due("sound", door.isSound(), true);
      for (int unit = 0; unit < 4; unit++) {
        for (int place = -1; place <= 260; place++) door.faultAt(unit, place);
        Door.due("turned", door.isTurned(unit, round, 2), true);
      }
      Door.due("queries change nothing", door.digest(), d);
    }
  }
}
