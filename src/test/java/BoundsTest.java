import java.util.ArrayList;
import java.util.List;

/** Each boundary that a promise names, promise by promise: too small, too large, empty, full, refused. */
public final class BoundsTest {
  private static final Class<IndexOutOfBoundsException> INDEX = IndexOutOfBoundsException.class;
  private static final Class<IllegalArgumentException> ARGUMENT = IllegalArgumentException.class;
  private static final Class<IllegalStateException> STATE = IllegalStateException.class;
  private static final int LEAST = Integer.MIN_VALUE;
  private static final int MOST = Integer.MAX_VALUE;
  private static final int[] NO_UNITS = {LEAST, -5, -1, 4, 5, 240, MOST};
  private static final int[] NO_TOKENS = {LEAST, -10, -9, -2, 64, 65, 98, 99, 140, 141, 999, 11000, 11001, MOST};
  private static final int[] TOKENS = {0, 1, 33, 34, 56, 57, 62, 63, 100, 125, 126, 139, 1000, 10999};

  public static void main(String[] args) {
    newObject();
    type();
    cut();
    sample();
    change();
    insert();
    remove();
    swap();
    tokenAndText();
    ofUnit();
    fault();
    importsMainTypes();
    ofType();
    aboveToSubtypes();
    field();
    overridden();
    places();
    itemsReachedSetRaised();
    runs();
    told();
    outcome();
    whole();
    isSound();
    throwingChangesNothing();
    firstNamedFirst();
    Door.end();
  }

  private static Sourcedoor full() {
    return Door.world(Door.times(240, ";"));
  }

  // ---- promise 1: an empty WORLD

  private static void newObject() {
    Sourcedoor door = new Sourcedoor();
    for (int unit = 0; unit < 4; unit++) {
      int[] facts = {0, 0, 0, 1, -1, 0};
      for (int what = 0; what < 6; what++) Door.due("new ofUnit " + what, door.ofUnit(unit, what), facts[what]);
      Door.due("new texts", door.text(unit) + door.faults(unit) + door.imports(unit) + door.types(unit), "");
      Door.due("new main", door.main(unit), -1);
      Door.due("new items", door.items(unit), 0);
      Door.due("new fault", door.fault(unit, 0, 0), -1);
      Door.due("new faultAt", door.faultAt(unit, 0), 0);
      Door.due("new turned", door.isTurned(unit, 0, 0), true);
    }
    int[] house = {0, 0, 0, 4, 0, 0, 0};
    for (int what = 0; what < 7; what++) Door.due("new house " + what, door.house(what), house[what]);
    Door.due("new output", door.output(), "");
    Door.due("new result", door.result(), "-");
    Door.due("new sound", door.isSound(), true);
    Door.due("two new ones are alike", door.digest(), new Sourcedoor().digest());
  }

  // ---- promise 2: type

  private static void type() {
    Sourcedoor door = new Sourcedoor();
    for (int unit : NO_UNITS) Door.throwing("type into " + unit, INDEX, () -> door.type(unit, 0, 0, 0, 0, 0));
    for (int bad : NO_TOKENS) {
      Door.throwing("a " + bad, ARGUMENT, () -> door.type(0, bad, -1, -1, -1, -1));
      Door.throwing("b " + bad, ARGUMENT, () -> door.type(0, -1, bad, -1, -1, -1));
      Door.throwing("c " + bad, ARGUMENT, () -> door.type(0, -1, -1, bad, -1, -1));
      Door.throwing("d " + bad, ARGUMENT, () -> door.type(0, -1, -1, -1, bad, -1));
      Door.throwing("e " + bad, ARGUMENT, () -> door.type(0, -1, -1, -1, -1, bad));
    }
    Door.due("nothing came of that", door.ofUnit(0, 0), 0);
    Door.due("NONE five times", door.type(0, -1, -1, -1, -1, -1), 0);
    for (int good : TOKENS) door.type(0, -1, -1, good, -1, -1);
    for (int k = 0; k < TOKENS.length; k++) Door.due("typed token", door.token(0, k), TOKENS[k]);
    for (int k = 0; k < 5; k++) {
      Sourcedoor full = Door.world("", "", "", Door.times(239, ";"));
      int[] five = {-1, -1, -1, -1, -1};
      five[k] = 0;
      Door.due("the 240th", full.type(3, five[0], five[1], five[2], five[3], five[4]), 240);
      Door.throwing("the 241st", STATE, () -> full.type(3, five[0], five[1], five[2], five[3], five[4]));
      Door.due("full still", full.type(3, -1, -1, -1, -1, -1), 240);
    }
    Sourcedoor nearly = Door.world(Door.times(238, ";"));
    Door.throwing("three more", STATE, () -> nearly.type(0, 0, -1, 0, -1, 0));
    Door.due("none of them came", nearly.ofUnit(0, 0), 238);
    Door.due("two more", nearly.type(0, 0, -1, -1, -1, 0), 240);
    for (int unit = 1; unit < 4; unit++) Door.due("another unit has room", nearly.type(unit, 0, 0, 0, 0, 0), 5);
  }

  // ---- promise 3: cut

  private static void cut() {
    Sourcedoor door = Door.world("class a { }");
    for (int unit : NO_UNITS) Door.throwing("cut of " + unit, INDEX, () -> door.cut(unit, 1));
    for (int many : new int[] {LEAST, -1, 0, 241, MOST}) Door.throwing("cut " + many, ARGUMENT, () -> door.cut(0, many));
    Door.due("cut nothing by that", door.text(0), "class a { }");
    Door.due("cut more than it has", door.cut(0, 5), 0);
    Door.due("cut of an empty one", door.cut(0, 1), 0);
    Door.due("cut all of an empty one", door.cut(0, 240), 0);
    Sourcedoor full = full();
    Door.due("cut one", full.cut(0, 1), 239);
    Door.due("cut all but one", full.cut(0, 238), 1);
    Door.due("cut the last one", full.cut(0, 1), 0);
    Sourcedoor all = full();
    Door.due("cut 240 of 240", all.cut(0, 240), 0);
    Door.due("cut just so many", Door.world("; ; ;").cut(0, 3), 0);
  }

  // ---- promise 4: sample

  private static void sample() {
    Sourcedoor door = full();
    for (int unit : NO_UNITS) Door.throwing("sample into " + unit, INDEX, () -> door.sample(unit, 0));
    for (int k : new int[] {LEAST, -1, 5, 6, MOST}) Door.throwing("sample " + k, ARGUMENT, () -> door.sample(0, k));
    Door.due("full still", door.ofUnit(0, 0), 240);
    Door.due("a sample takes the place of all", door.sample(0, 0), 93);
    Door.due("the last sample", door.sample(3, 4), 82);
    Door.due("the same one again", door.sample(3, 4), 82);
    for (int k = 0; k < 5; k++) {
      Sourcedoor alone = new Sourcedoor();
      alone.sample(k % 4, k);
      Door.due("faults of sample " + k, alone.faults(k % 4), k == 2 ? "3@14 3@18 3@35 3@51" : "");
    }
  }

  // ---- promise 5: change

  private static void change() {
    Sourcedoor door = Door.world("class a { }");
    for (int unit : NO_UNITS) Door.throwing("change in " + unit, INDEX, () -> door.change(unit, 0, 0));
    for (int place : new int[] {LEAST, -1, 4, 5, 240, MOST}) Door.throwing("change at " + place, INDEX, () -> door.change(0, place, 0));
    for (int bad : NO_TOKENS) Door.throwing("change to " + bad, ARGUMENT, () -> door.change(0, 0, bad));
    Door.throwing("change to NONE", ARGUMENT, () -> door.change(0, 3, -1));
    Door.throwing("change in an empty one", INDEX, () -> door.change(1, 0, 0));
    Door.due("nothing was changed", door.text(0), "class a { }");
    Door.due("the first place", door.change(0, 0, 1), 0);
    Door.due("the last place", door.change(0, 3, 38), 35);
    Door.due("to itself", door.change(0, 3, 38), 38);
    for (int good : TOKENS) {
      door.change(0, 1, good);
      Door.due("changed", door.token(0, 1), good);
    }
    Sourcedoor full = full();
    Door.due("the last place of a full one", full.change(0, 239, 0), 38);
    Door.throwing("behind that", INDEX, () -> full.change(0, 240, 0));
  }

  // ---- promise 6: insert

  private static void insert() {
    Sourcedoor door = Door.world("class a { }");
    for (int unit : NO_UNITS) Door.throwing("insert into " + unit, INDEX, () -> door.insert(unit, 0, 0));
    for (int place : new int[] {LEAST, -1, 5, 6, 240, 241, MOST}) {
      Door.throwing("insert at " + place, INDEX, () -> door.insert(0, place, 0));
    }
    for (int bad : NO_TOKENS) Door.throwing("insert " + bad, ARGUMENT, () -> door.insert(0, 4, bad));
    Door.throwing("insert NONE", ARGUMENT, () -> door.insert(0, 0, -1));
    Door.due("nothing was inserted", door.text(0), "class a { }");
    Door.due("ahead of the first", door.insert(0, 0, 2), 5);
    Door.due("ahead of the last", door.insert(0, 4, 35), 6);
    Door.due("behind the last", door.insert(0, 6, 10999), 7);
    Door.due("text", door.text(0), "abstract class a { } } 9999");
    Door.due("into an empty one", door.insert(1, 0, 139), 1);
    Door.throwing("behind the end of an empty one", INDEX, () -> door.insert(2, 1, 0));
    Sourcedoor nearly = Door.world(Door.times(239, ";"));
    Door.due("the 240th", nearly.insert(0, 239, 0), 240);
    for (int place : new int[] {0, 239, 240}) Door.throwing("the 241st", STATE, () -> nearly.insert(0, place, 0));
    Door.throwing("no place of a full one", INDEX, () -> nearly.insert(0, 241, 0));
    Door.due("full still", nearly.ofUnit(0, 0), 240);
    Sourcedoor front = Door.world(Door.times(238, ";") + "class");
    Door.due("the 240th in front", front.insert(0, 0, 1), 240);
    Door.due("the last one comes behind", front.token(0, 239), 0);
  }

  // ---- promise 7: remove

  private static void remove() {
    Sourcedoor door = Door.world("class a { }");
    for (int unit : NO_UNITS) Door.throwing("remove from " + unit, INDEX, () -> door.remove(unit, 0));
    for (int place : new int[] {LEAST, -1, 4, 5, 240, MOST}) Door.throwing("remove at " + place, INDEX, () -> door.remove(0, place));
    Door.throwing("remove from an empty one", INDEX, () -> door.remove(1, 0));
    Door.due("the last one", door.remove(0, 3), 35);
    Door.throwing("there is none any more", INDEX, () -> door.remove(0, 3));
    Door.due("the first one", door.remove(0, 0), 0);
    Door.due("text", door.text(0), "a {");
    Door.due("the next one", door.remove(0, 0), 100);
    Door.due("and the last", door.remove(0, 0), 34);
    Door.throwing("empty", INDEX, () -> door.remove(0, 0));
    Door.due("well again", door.ofUnit(0, 3), 1);
    Sourcedoor full = full();
    Door.due("the last one of a full one", full.remove(0, 239), 38);
    Door.due("so many are left", full.ofUnit(0, 0), 239);
  }

  // ---- promise 8: swap

  private static void swap() {
    Sourcedoor door = Door.world("class a { }", "", "", Door.times(240, ";"));
    for (int unit : NO_UNITS) {
      Door.throwing("swap " + unit, INDEX, () -> door.swap(unit, 0));
      Door.throwing("swap with " + unit, INDEX, () -> door.swap(0, unit));
      Door.throwing("swap both " + unit, INDEX, () -> door.swap(unit, unit));
    }
    Door.due("swap with itself", door.swap(0, 0), 4);
    Door.due("swap an empty one with itself", door.swap(1, 1), 0);
    Door.due("swap with a full one", door.swap(0, 3), 240);
    Door.due("the other one", door.text(3), "class a { }");
    Door.throwing("full now", STATE, () -> door.insert(0, 0, 0));
    Door.due("swap with an empty one", door.swap(3, 2), 0);
    Door.due("types go along", door.types(2) + door.types(3), "a");
    // A TYPE of two UNITS is TWICE in the later one, wherever that is.
    Sourcedoor two = Door.world("class a { }", "", "class a { } class b { }");
    Door.due("twice", two.faults(0) + two.faults(2), "2@1");
    two.swap(0, 2);
    Door.due("twice behind swap", two.faults(0) + "/" + two.faults(2), "/2@1");
  }

  // ---- promises 9 and 10: token, text

  private static void tokenAndText() {
    Sourcedoor door = Door.world("class a { }");
    for (int unit : NO_UNITS) {
      Door.throwing("token of " + unit, INDEX, () -> door.token(unit, 0));
      Door.throwing("text of " + unit, INDEX, () -> door.text(unit));
    }
    for (int place : new int[] {LEAST, -1, 4, 255, 256, MOST}) Door.throwing("token at " + place, INDEX, () -> door.token(0, place));
    Door.throwing("token of an empty one", INDEX, () -> door.token(3, 0));
    Door.due("the first", door.token(0, 0), 0);
    Door.due("the last", door.token(0, 3), 35);
    Door.due("an empty one", door.text(3), "");
    Door.due("one token", Door.world("Cast").text(0), "Cast");
    Door.due("the numbers' ends", Door.world("0 9 10 99 100 999 1000 9999").text(0), "0 9 10 99 100 999 1000 9999");
    Door.due("the names' ends", Door.world("a z A N").text(0), "a z A N");
    Door.due("a full one", full().text(0), Door.times(240, ";").trim());
    Door.due("the longest words", Door.world(Door.times(240, "implements")).text(0).length(), 240 * 11 - 1);
  }

  // ---- promise 11: ofUnit

  private static void ofUnit() {
    Sourcedoor door = Door.world("package a ;", "package N ;", "import", Door.times(60, "class a { }"));
    for (int unit : NO_UNITS) Door.throwing("ofUnit of " + unit, INDEX, () -> door.ofUnit(unit, 0));
    for (int what : new int[] {LEAST, -1, 6, MOST}) Door.throwing("ofUnit " + what, ARGUMENT, () -> door.ofUnit(0, what));
    Door.due("the first package", door.ofUnit(0, 4), 0);
    Door.due("the last package", door.ofUnit(1, 4), 39);
    int[] broken = {1, 0, 1, 0, -1, 0};
    for (int what = 0; what < 6; what++) Door.due("a broken one " + what, door.ofUnit(2, what), broken[what]);
    int[] many = {240, 60, 59, 0, -1, 0};
    for (int what = 0; what < 6; what++) Door.due("as many types as there may be " + what, door.ofUnit(3, what), many[what]);
    Sourcedoor imports = Door.world(Door.times(48, "import p . a ;"));
    Door.due("as many imports as there may be", imports.ofUnit(0, 5), 48);
    Door.due("all mean nothing, all but one are twice", imports.ofUnit(0, 2), 48 + 47);
    // Without its last token it has a fault of syntax: none of its imports is told.
    imports.cut(0, 1);
    Door.due("imports of a broken one", imports.ofUnit(0, 5), 0);
    Door.due("its only fault", imports.faults(0), "1@239");
    Sourcedoor behind = Door.world("package p ; class a {");
    Door.due("package of a broken one", behind.ofUnit(0, 4), -1);
    Door.due("types of a broken one", behind.ofUnit(0, 1), 0);
    behind.type(0, 35, -1, -1, -1, -1);
    Door.due("package", behind.ofUnit(0, 4), 15);
  }

  // ---- promises 12 to 14: fault, faultAt, faults

  private static void fault() {
    Sourcedoor door = Door.world("class a extends z { }", "class b { int k = z ; int @ n = w ; }", "", full().text(0));
    for (int unit : NO_UNITS) {
      Door.throwing("fault of " + unit, INDEX, () -> door.fault(unit, 0, 0));
      Door.throwing("faultAt of " + unit, INDEX, () -> door.faultAt(unit, 0));
      Door.throwing("faults of " + unit, INDEX, () -> door.faults(unit));
    }
    for (int k : new int[] {LEAST, -1}) Door.throwing("fault " + k, ARGUMENT, () -> door.fault(0, k, 0));
    for (int what : new int[] {LEAST, -1, 2, MOST}) Door.throwing("fault's " + what, ARGUMENT, () -> door.fault(0, 0, what));
    Door.throwing("of a fault that is none", ARGUMENT, () -> door.fault(2, 7, 2));
    Door.due("the first one's number", door.fault(0, 0, 0), 3);
    Door.due("the first one's place", door.fault(0, 0, 1), 3);
    Door.due("behind the last one", door.fault(0, 1, 0), -1);
    Door.due("its place", door.fault(0, 1, 1), -1);
    Door.due("far behind", door.fault(0, MOST, 0), -1);
    Door.due("the last of two", door.fault(1, 1, 1), 11);
    Door.due("a unit without", door.fault(2, 0, 0), -1);
    for (int place : new int[] {LEAST, -241, -1, 0, 2, 4, 5, 239, 240, 241, 255, 256, 259, 512, 1024, MOST}) {
      Door.due("no fault at " + place, door.faultAt(0, place), 0);
    }
    Door.due("a fault at a place", door.faultAt(0, 3), 3);
    Door.due("faults without", door.faults(2), "");
    Door.due("at once", door.faults(3), "1@0");
    // At one place by numbers; the smallest one is that which faultAt tells.
    Sourcedoor many = Door.faults("class a { a ( ) { } @2,5 b ( ) { } }");
    int at = Door.place(many.text(0), "b", 0);
    Door.due("the smaller one first", many.fault(0, 0, 0), 2);
    Door.due("the larger one behind", many.fault(0, 1, 0), 5);
    Door.due("both there", many.fault(0, 0, 1) * 1000 + many.fault(0, 1, 1), at * 1001);
    Door.due("the smallest", many.faultAt(0, at), 2);
    // Behind the last token of a full unit.
    Sourcedoor full = Door.world(Door.times(59, "class a { }") + "class a {");
    Door.due("behind the last one", full.faults(0), "1@239");
    full.type(0, 13, -1, -1, -1, -1);
    Door.due("behind the last one of a full one", full.faults(0), "1@240");
    Door.due("there", full.faultAt(0, 240), 1);
    Door.due("not there", full.faultAt(0, 239) + full.faultAt(0, 241), 0);
    Door.due("its place", full.fault(0, 0, 1), 240);
    Door.throwing("there is no token", INDEX, () -> full.meant(0, 240));
  }

  // ---- promises 15 to 17: imports, main, types

  private static void importsMainTypes() {
    Sourcedoor door = Door.world("import a . a ;", "class a { static int M ( int x , int y ) { return 1 ; } }",
        "package p ; class a { static int M ( int x , int y ) { return w ; } }", "class b { static int M ( int x , int y ) { return 1 ;");
    for (int unit : NO_UNITS) {
      Door.throwing("imports of " + unit, INDEX, () -> door.imports(unit));
      Door.throwing("main of " + unit, INDEX, () -> door.main(unit));
      Door.throwing("types of " + unit, INDEX, () -> door.types(unit));
    }
    Door.due("an import that means nothing", door.imports(0), "a.a");
    Door.due("no import", door.imports(1), "");
    Door.due("no M", door.main(0), -1);
    Door.due("M", door.main(1), 5);
    Door.due("M though it is not well", door.main(2), 8);
    Door.due("M of a broken one", door.main(3), -1);
    Door.due("no types", door.types(0), "");
    Door.due("types of a broken one", door.types(3), "");
    Sourcedoor all = Door.world(Door.times(60, "class N { }"));
    Door.due("as many types as there may be", all.types(0), Door.times(60, "N").trim());
    Sourcedoor packed = Door.world("package N ; " + Door.times(59, "class a { }"));
    Door.due("in a package", packed.types(0), Door.times(59, "N.a").trim());
    Sourcedoor imports = Door.world(Door.times(48, "import z . A ;"));
    Door.due("as many imports as there may be", imports.imports(0), Door.times(48, "z.A").trim());
    // The first static one with two ints, by TYPES, then by places; none that is TWICE.
    String[] texts = {
      "class a { int M ( int x , int y ) { return 1 ; } }", "-1",
      "class a { static int M ( int x , int y , int z ) { return 1 ; } }", "-1",
      "class a { static int M ( int x ) { return 1 ; } }", "-1",
      "class a { static int M ( ) { return 1 ; } }", "-1",
      "class a { static int M ( int x , byte y ) { return 1 ; } }", "-1",
      "class a { static int M ( Integer x , int y ) { return 1 ; } }", "-1",
      "class a { static int L ( int x , int y ) { return 1 ; } }", "-1",
      "class a { static int N ( int x , int y ) { return 1 ; } }", "-1",
      "class a { static int M ; }", "-1",
      "class M { M ( int x , int y ) { } }", "-1",
      "abstract class a { abstract int M ( int x , int y ) ; }", "-1",
      "class a { int M ( int x , int y ) { return 1 ; } static int M ( int x , int y ) { return 1 ; } }", "-1",
      "class a { static void M ( int x , int y ) { } static int M ( int x , int y ) { return 1 ; } }", "5",
      "class a { } class b { static boolean M ( int x , int x ) { return 1 ; } }", "9",
    };
    for (int k = 0; k < texts.length; k += 2) Door.due("main of " + texts[k], "" + Door.world(texts[k]).main(0), texts[k + 1]);
  }

  // ---- promise 18: ofType

  private static void ofType() {
    Sourcedoor door = Door.world("class a { } interface b { }", "", "class c {", Door.times(60, "class d { }"));
    for (int unit : NO_UNITS) Door.throwing("ofType of " + unit, INDEX, () -> door.ofType(unit, 0, 0));
    for (int k : new int[] {LEAST, -1, 2, 3, 240, MOST}) Door.throwing("type " + k, INDEX, () -> door.ofType(0, k, 0));
    for (int what : new int[] {LEAST, -1, 8, MOST}) Door.throwing("ofType's " + what, ARGUMENT, () -> door.ofType(0, 0, what));
    Door.throwing("no type of an empty unit", INDEX, () -> door.ofType(1, 0, 0));
    Door.throwing("no type of a broken unit", INDEX, () -> door.ofType(2, 0, 0));
    Door.due("the first type", door.ofType(0, 0, 0), 1);
    Door.due("the last type", door.ofType(0, 1, 0), 5);
    Door.due("the 60th type", door.ofType(3, 59, 0), 237);
    Door.throwing("the 61st type", INDEX, () -> door.ofType(3, 60, 0));
    int[] empty = {1, 0, 0, 0, 0, 0, 0, 0};
    for (int what = 0; what < 8; what++) Door.due("an empty class " + what, door.ofType(0, 0, what), empty[what]);
    int[] slots = {5, 1, 0, 0, 0, 0, 0, 0};
    for (int what = 0; what < 8; what++) Door.due("an empty interface " + what, door.ofType(0, 1, what), slots[what]);
    Door.due("an abstract interface is none", Door.world("abstract interface a { }").ofUnit(0, 1), 0);
    // Those that are TWICE do not count, the others do.
    Sourcedoor fields = Door.world("class a { " + Door.times(78, "int a ;") + "}");
    Door.due("fields that are twice", fields.ofType(0, 0, 6), 1);
    Door.due("their faults", fields.ofUnit(0, 2), 77);
    StringBuilder names = new StringBuilder("class a { ");
    for (int k = 0; k < 40; k++) names.append("int ").append((char) (k < 26 ? 'a' + k : 'A' + k - 26)).append(" ; ");
    Sourcedoor all = Door.world(names.append("}").toString());
    Door.due("a field of each name", all.ofType(0, 0, 6), 40);
    Door.due("none is twice", all.faults(0), "");
    Sourcedoor starts = Door.world("class a { " + Door.times(47, "a ( ) { }") + "}");
    Door.due("constructors that are twice", starts.ofType(0, 0, 5), 1);
    Sourcedoor methods = Door.world("interface a { " + Door.times(47, "int f ( ) ;") + "}");
    Door.due("methods that are twice", methods.ofType(0, 0, 7), 1);
    Door.due("methods of it", methods.ofType(0, 0, 3) * 10 + methods.ofType(0, 0, 4), 11);
  }

  // ---- promises 19 to 21, 23 to 25: what is told of a TYPE

  private static void aboveToSubtypes() {
    Sourcedoor door = Door.world("class a { } interface b { }", "", "class c {");
    List<Door.Call> calls = new ArrayList<>();
    for (int[] bad : new int[][] {{-1, 0}, {4, 0}, {LEAST, 0}, {MOST, 0}, {0, -1}, {0, 2}, {0, LEAST}, {0, MOST}, {1, 0}, {2, 0}, {3, 0}}) {
      calls.add(() -> door.above(bad[0], bad[1]));
      calls.add(() -> door.methods(bad[0], bad[1]));
      calls.add(() -> door.own(bad[0], bad[1]));
      calls.add(() -> door.constructors(bad[0], bad[1]));
      calls.add(() -> door.subtypes(bad[0], bad[1]));
      calls.add(() -> door.isSubtype(bad[0], bad[1], 0, 0));
      calls.add(() -> door.isSubtype(0, 0, bad[0], bad[1]));
      calls.add(() -> door.isSubtype(bad[0], bad[1], bad[0], bad[1]));
      calls.add(() -> door.field(bad[0], bad[1], 0));
    }
    for (Door.Call call : calls) Door.throwing("no such type", INDEX, call);
    Door.due("above a class", door.above(0, 0), "Object");
    Door.due("above an interface", door.above(0, 1), "");
    Door.due("nothing of an empty one", door.methods(0, 0) + door.own(0, 0) + door.constructors(0, 0) + door.subtypes(0, 0), "");
    Door.due("a subtype of itself", door.isSubtype(0, 1, 0, 1), true);
    Door.due("of no other one", door.isSubtype(0, 0, 0, 1), false);
    // As long a way up as there may be: 40 names, each above the next one.
    StringBuilder chain = new StringBuilder("class a { } ");
    for (int k = 1; k < 30; k++) chain.append("class ").append(name(k)).append(" extends ").append(name(k - 1)).append(" { } ");
    StringBuilder more = new StringBuilder();
    for (int k = 30; k < 40; k++) more.append("class ").append(name(k)).append(" extends ").append(name(k - 1)).append(" { } ");
    Sourcedoor up = Door.world(chain.toString(), more.toString());
    Door.due("well", up.house(3), 4);
    Door.due("the lowest is under the highest", up.isSubtype(1, 9, 0, 0), true);
    Door.due("the highest is not under the lowest", up.isSubtype(0, 0, 1, 9), false);
    Door.due("39 are under the highest", up.subtypes(0, 0).length(), 2 * 39 - 1);
    Door.due("none is under the lowest", up.subtypes(1, 9), "");
    // Closed to a ring, all of them are in a CYCLE.
    up.insert(0, 2, 139);
    up.insert(0, 2, 5);
    Door.due("a ring of 40", up.house(2), 40);
    Door.due("nothing stands above then", up.above(1, 9) + up.subtypes(0, 0), "Object");
  }

  private static char name(int k) {
    return (char) (k < 26 ? 'a' + k : 'A' + k - 26);
  }

  // ---- promise 22: field

  private static void field() {
    Sourcedoor door = Door.world("package p ; class a { int a ; z N ; } class b extends a { }");
    for (int name : new int[] {LEAST, -1, 40, 41, 100, 139, MOST}) Door.throwing("field " + name, ARGUMENT, () -> door.field(0, 0, name));
    Door.throwing("field of no type", INDEX, () -> door.field(0, 2, 40));
    Door.throwing("field of no unit", INDEX, () -> door.field(4, 0, -1));
    Door.due("the first name", door.field(0, 0, 0), "p.a.a:int");
    Door.due("the last name", door.field(0, 0, 39), "p.a.N:?");
    Door.due("from above", door.field(0, 1, 39), "p.a.N:?");
    for (int name = 1; name < 39; name++) Door.due("no field " + name, door.field(0, 1, name), "-");
  }

  // ---- promise 26: overridden

  private static void overridden() {
    String text = "interface i { void f ( ) ; } class a implements i { a ( ) { f ( ) ; } void f ( ) { } void f ( ) { } int f ; }";
    Sourcedoor door = Door.world(text);
    for (int unit : NO_UNITS) Door.throwing("overridden in " + unit, INDEX, () -> door.overridden(unit, 0));
    int end = door.ofUnit(0, 0);
    for (int place : new int[] {LEAST, -1, end, 240, MOST}) Door.throwing("overridden at " + place, INDEX, () -> door.overridden(0, place));
    Door.throwing("overridden in an empty one", INDEX, () -> door.overridden(1, 0));
    StringBuilder all = new StringBuilder();
    for (int place = 0; place < end; place++) {
      if (door.overridden(0, place) != -1) all.append(place).append(':').append(door.overridden(0, place)).append(' ');
    }
    Door.due("just the names of methods, but that which is twice", all.toString(), Door.place(text, "f", 0) + ":0 " + Door.place(text, "f", 2) + ":1 ");
    Door.due("in a broken one", Door.world("class a { void f ( ) { }").overridden(0, 4), -1);
  }

  // ---- promises 26 to 31, 33 to 35: places

  private static void places() {
    Sourcedoor door = Door.world("class a { int f ( ) { return 1 ; } }", "", "class a {");
    List<Door.Call> calls = new ArrayList<>();
    int end = door.ofUnit(0, 0);
    int[][] all = {{-1, 0}, {4, 0}, {LEAST, LEAST}, {MOST, MOST}, {0, -1}, {0, end}, {0, 240}, {0, 256}, {0, LEAST}, {0, MOST}, {1, 0}, {2, 3}};
    for (int[] bad : all) {
      calls.add(() -> door.overridden(bad[0], bad[1]));
      calls.add(() -> door.meant(bad[0], bad[1]));
      calls.add(() -> door.kind(bad[0], bad[1]));
      calls.add(() -> door.value(bad[0], bad[1]));
      calls.add(() -> door.phase(bad[0], bad[1]));
      calls.add(() -> door.applies(bad[0], bad[1]));
      calls.add(() -> door.reached(bad[0], bad[1]));
      calls.add(() -> door.isSet(bad[0], bad[1], 0));
      calls.add(() -> door.isSet(bad[0], bad[1], 40));
      calls.add(() -> door.raised(bad[0], bad[1]));
    }
    for (Door.Call call : calls) Door.throwing("no such place", INDEX, call);
    Door.due("the first place", door.meant(0, 0) + door.kind(0, 0) + door.value(0, 0) + door.raised(0, 0), "----");
    Door.due("the last place", door.meant(0, end - 1) + door.kind(0, end - 1) + door.value(0, end - 1) + door.raised(0, end - 1), "----");
    Door.due("numbers of the first place", door.phase(0, 0) + door.applies(0, 0) + door.reached(0, 0) + door.isSet(0, 0, 0), -2);
    Door.due("a broken one", door.meant(2, 2) + door.kind(2, 2) + door.value(2, 2) + door.raised(2, 2) + door.phase(2, 2) + door.applies(2, 2), "----00");
    Door.due("numbers of a broken one", door.reached(2, 2) + door.isSet(2, 2, 39) + door.overridden(2, 2), -3);
  }

  // ---- promises 32 to 35: items, reached, isSet, raised

  private static void itemsReachedSetRaised() {
    Sourcedoor door = Door.world("class a { void f ( int a , int N ) { ; } }");
    for (int unit : NO_UNITS) Door.throwing("items of " + unit, INDEX, () -> door.items(unit));
    Door.due("one item", door.items(0), 1);
    Door.due("no item", Door.world("class a { void f ( ) { } int k = 1 ; }").items(0), 0);
    int full = (240 - 11) / 2;
    Sourcedoor blocks = Door.world("class a { void f ( ) { " + Door.times(full, "{ }") + "} }");
    Door.due("as many blocks as there may be", blocks.items(0), full);
    Sourcedoor empties = Door.world("class a { void f ( ) { " + Door.times(230, ";") + "} }");
    Door.due("as many items as there may be", empties.items(0), 230);
    Door.due("a full one", empties.ofUnit(0, 0) + "/" + empties.faults(0), "240/");
    Door.due("the last one is reached", empties.reached(0, 237), 3);
    empties.cut(0, 1);
    Door.due("items with a fault of syntax", empties.items(0), 0);
    for (int name : new int[] {LEAST, -1, 40, 139, MOST}) Door.throwing("isSet of " + name, ARGUMENT, () -> door.isSet(0, 0, name));
    int at = Door.place(door.text(0), ";", 0);
    Door.due("the first name", door.isSet(0, at, 0), 1);
    Door.due("the last name", door.isSet(0, at, 39), 1);
    for (int name = 1; name < 39; name++) Door.due("no such one", door.isSet(0, at, name), -1);
    for (int place = 0; place < door.ofUnit(0, 0); place++) {
      if (place != at) Door.due("no such item", door.isSet(0, place, 0) + door.reached(0, place), -2);
    }
    Door.due("nothing gets out", door.raised(0, Door.place(door.text(0), "f", 0)), "");
  }

  // ---- promises 36, 39, 41: run, result, isTurned

  private static void runs() {
    Sourcedoor door = Door.world("class a { static int M ( int x , int y ) { tell y ; return x ; } }", "", "", "class b { }");
    for (int unit : NO_UNITS) {
      Door.throwing("run of " + unit, INDEX, () -> door.run(unit, 0, 0));
      Door.throwing("isTurned of " + unit, INDEX, () -> door.isTurned(unit, 0, 0));
    }
    for (int unit = 1; unit < 4; unit++) Door.due("a unit without M", door.run(unit, 0, 0), -9);
    Door.due("they were counted", door.house(4) * 10 + door.house(6), 30);
    Door.due("the least number", door.run(0, LEAST, MOST), 1);
    Door.due("its result", door.result() + "/" + door.output(), LEAST + "/" + MOST);
    Door.due("the most", door.run(0, MOST, LEAST), 1);
    Door.due("its result", door.result() + "/" + door.output(), MOST + "/" + LEAST);
    long before = door.digest();
    Door.due("refused for want of M", door.run(3, 7, 7), -9);
    Door.due("the last run stays", door.result() + "/" + door.output() + "/" + door.told(0) + "/" + door.outcome(0), MOST + "/" + LEAST + "/" + LEAST + "/1");
    Door.due("it was counted", door.house(4), 4);
    Door.due("runs are not", door.house(6), 2);
    Door.due("so the digest is another one", door.digest() != before, true);
    // One UNIT that is not WELL is enough, though it has nothing to do with M.
    for (String bad : new String[] {";", "class c extends z { }", "import p . a ;", "class a { }", "class c { void f ( ) { return ; ; } }"}) {
      door.cut(2, 240);
      Door.type(door, 2, bad);
      Door.due("refused beside " + bad, door.run(0, 1, 1), -9);
      Door.due("turned then", door.isTurned(0, 1, 1), true);
    }
    door.cut(2, 240);
    Door.due("well again", door.run(0, 1, 1), 1);
    Door.due("refused in all", door.house(4), 9);
    // A fault at the very first place is one, too.
    Sourcedoor first = Door.world(";", "class a { static int M ( int x , int y ) { return x ; } }");
    Door.due("refused for the first token", first.run(1, 1, 1), -9);
    // An exception goes ahead of -9.
    door.type(2, 0, -1, -1, -1, -1);
    Door.throwing("no unit of a world that is not well", INDEX, () -> door.run(4, 1, 1));
    Door.due("that was not counted", door.house(4), 9);
  }

  // ---- promises 37 and 38: output, told

  private static void told() {
    Sourcedoor door = Door.world("class a { static void M ( int x , int y ) { while ( 0 < x ) { tell x ; x += - 1 ; } } }");
    for (int k : new int[] {LEAST, -1}) Door.throwing("told " + k, ARGUMENT, () -> door.told(k));
    Door.due("told without a run", door.told(0) + door.told(MOST), "--");
    door.run(0, 0, 0);
    Door.due("nothing was told", door.output() + "/" + door.told(0), "/-");
    door.run(0, 1, 0);
    Door.due("one", door.output() + "/" + door.told(0) + "/" + door.told(1), "1/1/-");
    Door.due("60 are let", door.run(0, 60, 0), 1);
    Door.due("the first", door.told(0), "60");
    Door.due("the last", door.told(59), "1");
    Door.due("behind the last", door.told(60) + door.told(61) + door.told(MOST), "---");
    Door.due("so many", door.outcome(1), 60);
    Door.due("61 are not", door.run(0, 61, 0), 2);
    Door.due("FULL", door.result() + "/" + door.told(59) + "/" + door.told(60) + "/" + door.outcome(1), "FULL/2/-/60");
    door.run(0, 2, 0);
    Door.due("the next run tells anew", door.output(), "2 1");
    Door.due("nothing of the one ahead", door.told(2), "-");
  }

  // ---- promise 40: outcome

  private static void outcome() {
    Sourcedoor door = Door.world("class a { static int M ( int x , int y ) { if ( x < 0 ) throw null ; return 1 ; } }");
    for (int what : new int[] {LEAST, -1, 7, MOST}) Door.throwing("outcome " + what, ARGUMENT, () -> door.outcome(what));
    int[] none = {-1, 0, 0, 0, 0, 0, 0};
    for (int what = 0; what < 7; what++) Door.due("without a run " + what, door.outcome(what), none[what]);
    door.run(1, 0, 0);
    for (int what = 0; what < 7; what++) Door.due("after a refused one " + what, door.outcome(what), none[what]);
    door.run(0, -1, 0);
    int[] thrown = {0, 0, 3, 1, 1, 1, 1};
    for (int what = 0; what < 7; what++) Door.due("after one that threw " + what, door.outcome(what), thrown[what]);
    door.run(0, 0, 0);
    int[] ended = {1, 0, 3, 1, 1, 0, 0};
    for (int what = 0; what < 7; what++) Door.due("after one that ended " + what, door.outcome(what), ended[what]);
    Door.due("result", door.result(), "1");
  }

  // ---- promises 42 to 44: blank, knock, house

  private static void whole() {
    Sourcedoor door = new Sourcedoor();
    for (int what : new int[] {LEAST, -1, 7, MOST}) Door.throwing("house " + what, ARGUMENT, () -> door.house(what));
    for (int k = 1; k <= 100; k++) Door.due("blank", door.blank(), -9);
    for (int k = 1; k <= 100; k++) Door.due("knock", door.knock(), k);
    int[] due = {0, 0, 0, 4, 100, 100, 0};
    for (int what = 0; what < 7; what++) Door.due("house " + what, door.house(what), due[what]);
    Sourcedoor full = Door.world(Door.times(60, "class a { }"), Door.times(60, "class a { }"), Door.times(60, "class a { }"), Door.times(60, "class a { }"));
    int[] most = {960, 240, 239, 0, 0, 0, 0};
    for (int what = 0; what < 7; what++) Door.due("a full house " + what, full.house(what), most[what]);
    for (int unit = 0; unit < 4; unit++) full.cut(unit, 240);
    for (int what = 0; what < 7; what++) Door.due("an empty house " + what, full.house(what), what == 3 ? 4 : 0);
  }

  // ---- promises 45 and 46: isSound, digest

  private static void isSound() {
    Sourcedoor door = Door.world("class a { static int M ( int x , int y ) { while ( x == 3 && y == 2 ) ; return 1 div x ; } }");
    long before = door.digest();
    Door.due("sound though one does not end, and one throws", door.isSound(), true);
    Door.due("no run", door.house(6) + door.outcome(2), 0);
    Door.due("the digest stays", door.digest(), before);
    Sourcedoor one = new Sourcedoor();
    long empty = one.digest();
    one.knock();
    Door.due("a knock is in it", one.digest() != empty, true);
    Sourcedoor all = Door.world(Door.times(60, "class a { }"));
    Door.due("sound though it is not well", all.isSound(), true);
    Door.due("the same calls, the same digest", all.digest(), Door.world(Door.times(60, "class a { }")).digest());
  }

  // ---- a method that throws an exception changes nothing

  private static void throwingChangesNothing() {
    Sourcedoor door = Door.world("class a { static int M ( int x , int y ) { tell x ; return y ; } }", Door.times(240, ";"), "");
    door.cut(1, 240);
    door.run(0, 1, 2);
    door.blank();
    door.knock();
    door.type(2, 0, 100, 34, 35, -1);
    Sourcedoor full = full();
    long before = door.digest();
    long fullBefore = full.digest();
    Door.Call[] calls = {
      () -> door.type(4, 0, 0, 0, 0, 0), () -> door.type(0, 0, 0, 0, 0, 64), () -> door.cut(-1, 1), () -> door.cut(0, 0),
      () -> door.sample(4, 0), () -> door.sample(0, 5), () -> door.change(0, -1, 0), () -> door.change(0, 0, 64), () -> door.insert(0, 99, 0),
      () -> door.insert(0, 0, -1), () -> door.remove(3, 0), () -> door.remove(0, 99), () -> door.swap(0, 4), () -> door.swap(-1, 0),
      () -> door.run(4, 1, 1), () -> door.run(-1, 1, 1), () -> door.isTurned(4, 1, 1), () -> door.told(-1), () -> door.outcome(7),
      () -> door.house(7), () -> door.ofUnit(0, 6), () -> door.fault(0, -1, 0), () -> door.ofType(0, 0, 8), () -> door.isSet(0, 0, 40),
    };
    for (Door.Call call : calls) {
      try {
        call.make();
        Door.due("it throws", false, true);
      } catch (IndexOutOfBoundsException | IllegalArgumentException e) {
        Door.due("nothing was changed", door.digest(), before);
      }
    }
    Door.throwing("type into a full one", STATE, () -> full.type(0, 0, -1, -1, -1, -1));
    Door.throwing("insert into a full one", STATE, () -> full.insert(0, 0, 0));
    Door.due("nothing was changed in a full one", full.digest(), fullBefore);
  }

  // ---- of several exceptions the one that is named first is thrown

  private static void firstNamedFirst() {
    Sourcedoor door = full();
    Door.throwing("type: unit, token, room", INDEX, () -> door.type(4, 64, 0, 0, 0, 0));
    Door.throwing("type: unit, room", INDEX, () -> door.type(-1, 0, 0, 0, 0, 0));
    Door.throwing("type: token, room", ARGUMENT, () -> door.type(0, 0, 0, 0, 0, 64));
    Door.throwing("cut: unit, many", INDEX, () -> door.cut(4, 0));
    Door.throwing("sample: unit, sample", INDEX, () -> door.sample(4, 5));
    Door.throwing("change: place, token", INDEX, () -> door.change(0, 240, 64));
    Door.throwing("change: unit, token", INDEX, () -> door.change(4, 0, 64));
    Door.throwing("insert: place, token, room", INDEX, () -> door.insert(0, 241, 64));
    Door.throwing("insert: token, room", ARGUMENT, () -> door.insert(0, 240, 64));
    Door.throwing("insert: room", STATE, () -> door.insert(0, 240, 0));
    Door.throwing("ofUnit: unit, what", INDEX, () -> door.ofUnit(4, 6));
    Door.throwing("fault: unit, k, what", INDEX, () -> door.fault(4, -1, 2));
    Door.throwing("ofType: type, what", INDEX, () -> door.ofType(0, 0, 8));
    Door.throwing("field: type, name", INDEX, () -> door.field(0, 0, 40));
    Door.throwing("isSet: place, name", INDEX, () -> door.isSet(0, 240, 40));
  }
}
