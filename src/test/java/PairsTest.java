/** Section 4 for each pair of KINDS: what a sign, a cast, an instanceof, an ARG, = and += make of them, by tables written out by hand. */
public final class PairsTest {
  // A sign for each KIND: of EXPRS all of them, of KINDS all but n (null) and v (void).
  private static final String SIGNS = "zyilIOabcstnv";
  private static final String[] KINDS = {"boolean", "byte", "int", "long", "Integer", "Object", "a", "b", "c", "s", "t", "null", "void"};
  private static final int DECLARED = 11;
  private static final String TYPES = "interface s { } interface t { } class c implements s { } class b extends a { } class a { boolean z ; byte y ; int i ; "
      + "long l ; Integer I ; Object C ; a a ; b b ; c c ; s s ; t t ; void v ( ) { } ";
  private static final String[] EXPRS = {"z", "y", "i", "l", "I", "C", "a", "b", "c", "s", "t", "null", "v ( )"};

  // In each table a row for the left one, a column for the right one; "." is FORM, otherwise it is the KIND that it has.
  private static final String[] SUMS = {
    ".............", ".iili........", ".iili........", ".llll........", ".iili........", ".............", ".............",
    ".............", ".............", ".............", ".............", ".............", ".............",
  };
  private static final String[] LESS = {
    ".............", ".zzzz........", ".zzzz........", ".zzzz........", ".zzzz........", ".............", ".............",
    ".............", ".............", ".............", ".............", ".............", ".............",
  };
  private static final String[] LOGIC = {
    "z............", ".............", ".............", ".............", ".............", ".............", ".............",
    ".............", ".............", ".............", ".............", ".............", ".............",
  };
  private static final String[] SAME = {
    "z............", ".zzzz........", ".zzzz........", ".zzzz........", ".zzzzz.....z.", "....zzzzzzzz.", ".....zzz.zzz.",
    ".....zzz.zzz.", ".....z..zzzz.", ".....zzzzzzz.", ".....zzzzzzz.", "....zzzzzzz..", ".............",
  };
  private static final String[] CHOICE = {
    "z............", ".yili........", ".iiliO.....I.", ".llll........", ".iilIO.....I.", "..O.OOOOOOOO.", ".....Oaa...a.",
    ".....Oab...b.", ".....O..cs.c.", ".....O..ss.s.", ".....O....tt.", "..I.IOabcstn.", ".............",
  };
  // The left one is a variable; of null and void there is none.
  private static final String[] ADD_SET = {
    ".............", ".yyyy........", ".iiii........", ".llll........", ".............", ".............", ".............",
    ".............", ".............", ".............", ".............",
  };
  // From the row's EXPR to the column's KIND.
  private static final String[] CASTS = {
    "x..........", ".xxx.......", ".xxxxx.....", ".xxx.......", "..xxxx.....", "....xxxxxxx", ".....xxx.xx",
    ".....xxx.xx", ".....x..xxx", ".....xxxxxx", ".....xxxxxx", "....xxxxxxx", "...........",
  };
  private static final String[] INSTANCES = {
    "...........", "...........", "...........", "...........", "....xx.....", "....xxxxxxx", ".....xxx.xx",
    ".....xxx.xx", ".....x..xxx", ".....xxxxxx", ".....xxxxxx", "....xxxxxxx", "...........",
  };
  // The PHASE in which an ARG of the row's EXPR fits a PARAM of the column's KIND; = lets just these, too, but for CONSTANTS.
  private static final String[] PHASES = {
    "1..........", ".111.......", "..1122.....", "...1.......", "..2211.....", ".....1.....", ".....11....",
    ".....111...", ".....1..11.", ".....1...1.", ".....1....1", "....1111111", "...........",
  };

  public static void main(String[] args) {
    for (String sign : new String[] {"+", "-", "*", "div", "%"}) twoParts(sign, SUMS);
    for (String sign : new String[] {"<", "<="}) twoParts(sign, LESS);
    for (String sign : new String[] {"&&", "||"}) twoParts(sign, LOGIC);
    for (String sign : new String[] {"==", "!="}) twoParts(sign, SAME);
    choices();
    sets();
    casts();
    instances();
    arguments();
    onePart();
    Door.end();
  }

  /** The place of the first of such tokens that stands in the last class behind all that is declared there. */
  private static int behind(Sourcedoor door, String word, int n) {
    String[] words = door.text(0).split(" ");
    int left = n;
    for (int place = TYPES.split(" ").length; place < words.length; place++) {
      if (words[place].equals(word) && left-- == 0) return place;
    }
    throw new IllegalArgumentException(word);
  }

  private static void due(Sourcedoor door, int at, char want) {
    String what = " at " + at + " of " + door.text(0);
    Door.due("kind" + what, door.kind(0, at), want == '.' ? "-" : KINDS[SIGNS.indexOf(want)]);
    Door.due("fault" + what, door.faultAt(0, at), want == '.' ? 5 : 0);
  }

  private static int forms(String row) {
    int many = 0;
    for (int k = 0; k < row.length(); k++) {
      if (row.charAt(k) == '.') many++;
    }
    return many;
  }

  private static Sourcedoor body(StringBuilder body, int forms) {
    Sourcedoor door = Door.world(TYPES + "void f ( ) { " + body + "} }");
    Door.due("how many faults of " + body, door.ofUnit(0, 2), forms);
    return door;
  }

  private static void twoParts(String sign, String[] table) {
    for (int row = 0; row < EXPRS.length; row++) {
      StringBuilder body = new StringBuilder();
      for (String right : EXPRS) body.append("tell ").append(EXPRS[row]).append(' ').append(sign).append(' ').append(right).append(" ; ");
      Sourcedoor door = body(body, forms(table[row]));
      for (int k = 0; k < EXPRS.length; k++) due(door, behind(door, sign, k), table[row].charAt(k));
    }
  }

  private static void choices() {
    for (int row = 0; row < EXPRS.length; row++) {
      StringBuilder body = new StringBuilder();
      for (String right : EXPRS) body.append("tell z ? ").append(EXPRS[row]).append(" : ").append(right).append(" ; ");
      Sourcedoor door = body(body, forms(CHOICE[row]));
      for (int k = 0; k < EXPRS.length; k++) due(door, behind(door, "?", k), CHOICE[row].charAt(k));
      // What is asked has to be boolean, whatever its parts are.
      door = Door.world(TYPES + "void f ( ) { tell " + EXPRS[row] + " ? 1 : 2 ; } }");
      due(door, behind(door, "?", 0), row == 0 ? 'i' : '.');
    }
  }

  private static void sets() {
    for (int column = 0; column < DECLARED; column++) {
      StringBuilder sets = new StringBuilder();
      StringBuilder adds = new StringBuilder();
      int forms = 0;
      for (int row = 0; row < EXPRS.length; row++) {
        sets.append(EXPRS[column]).append(" = ").append(EXPRS[row]).append(" ; ");
        adds.append(EXPRS[column]).append(" += ").append(EXPRS[row]).append(" ; ");
        if (PHASES[row].charAt(column) == '.') forms++;
      }
      Sourcedoor door = body(sets, forms);
      for (int row = 0; row < EXPRS.length; row++) {
        due(door, behind(door, "=", row), PHASES[row].charAt(column) == '.' ? '.' : SIGNS.charAt(column));
      }
      door = body(adds, forms(ADD_SET[column]));
      for (int row = 0; row < EXPRS.length; row++) due(door, behind(door, "+=", row), ADD_SET[column].charAt(row));
      beginnings(column, forms);
    }
  }

  /** What stands behind the = of a LOCAL and of a FIELD, and behind return. */
  private static void beginnings(int column, int forms) {
    StringBuilder sets = new StringBuilder();
    StringBuilder returns = new StringBuilder();
    for (int row = 0; row < EXPRS.length; row++) {
      // I and C are FIELDS already.
      char name = row == 2 ? 'x' : row == 8 ? 'w' : (char) ('A' + row);
      sets.append(KINDS[column]).append(' ').append(name).append(" = ").append(EXPRS[row]).append(" ; ");
      returns.append("if ( z ) return ").append(EXPRS[row]).append(" ; ");
    }
    Sourcedoor local = body(sets, forms);
    Sourcedoor field = Door.world(TYPES + sets + "}");
    Door.due("how many faults of the fields " + sets, field.ofUnit(0, 2), forms);
    Sourcedoor back = Door.world(TYPES + KINDS[column] + " f ( ) { " + returns + "} }");
    for (int row = 0; row < EXPRS.length; row++) {
      int due = PHASES[row].charAt(column) == '.' ? 5 : 0;
      Door.due("local " + row + " of " + sets, local.faultAt(0, behind(local, "=", row) - 1), due);
      Door.due("field " + row + " of " + sets, field.faultAt(0, behind(field, "=", row) - 1), due);
      Door.due("return " + row + " of " + returns + " for " + KINDS[column], back.faultAt(0, behind(back, "return", row)), due);
    }
  }

  private static void casts() {
    for (int row = 0; row < EXPRS.length; row++) {
      for (int column = 0; column < DECLARED; column++) {
        boolean good = CASTS[row].charAt(column) == 'x';
        Sourcedoor door = Door.world(TYPES + "void f ( ) { tell ( " + KINDS[column] + " ) " + EXPRS[row] + " ; } }");
        due(door, behind(door, "tell", 0) + 1, good ? SIGNS.charAt(column) : '.');
        Door.due("faults of " + door.text(0), door.ofUnit(0, 2), good ? 0 : 1);
      }
    }
  }

  private static void instances() {
    for (int row = 0; row < EXPRS.length; row++) {
      StringBuilder body = new StringBuilder();
      for (int column = 4; column < DECLARED; column++) body.append("tell ").append(EXPRS[row]).append(" instanceof ").append(KINDS[column]).append(" ; ");
      Sourcedoor door = body(body, forms(INSTANCES[row]) - 4);
      for (int column = 4; column < DECLARED; column++) {
        due(door, behind(door, "instanceof", column - 4), INSTANCES[row].charAt(column) == 'x' ? 'z' : '.');
      }
    }
  }

  private static void arguments() {
    for (int column = 0; column < DECLARED; column++) {
      StringBuilder calls = new StringBuilder();
      for (String arg : EXPRS) calls.append("g ( ").append(arg).append(" ) ; ");
      Sourcedoor door = Door.world(TYPES + "void g ( " + KINDS[column] + " x ) { } void f ( ) { " + calls + "} }");
      StringBuilder makes = new StringBuilder();
      for (String arg : EXPRS) makes.append("new a ( ").append(arg).append(" ) ; ");
      // Without b, that has no CONSTRUCTOR for the super ( ) which it calls.
      String text = TYPES.replace("class b extends a { }", "class b extends a { b ( ) { super ( 1 div 0 ) ; } }");
      Sourcedoor maker = Door.world(text + "a ( " + KINDS[column] + " x ) { } void f ( ) { " + makes + "} }");
      for (int row = 0; row < EXPRS.length; row++) {
        char phase = PHASES[row].charAt(column);
        int call = behind(door, "g", row + 1);
        Door.due("phase of " + EXPRS[row] + " for " + KINDS[column], door.phase(0, call), phase == '.' ? 0 : phase - '0');
        Door.due("how many apply", door.applies(0, call), phase == '.' ? 0 : 1);
        due(door, call, phase == '.' ? '.' : 'v');
        int make = behind(maker, "new", row);
        Door.due("phase of new by " + EXPRS[row] + " for " + KINDS[column], maker.phase(0, make), phase == '.' ? 0 : phase - '0');
        due(maker, make, phase == '.' ? '.' : 'a');
      }
    }
  }

  /** What - and ! make of each, and which if, while, do, throw and tell let. */
  private static void onePart() {
    String minus = ".iili........";
    String not = "z............";
    for (int row = 0; row < EXPRS.length; row++) {
      Sourcedoor door = Door.world(TYPES + "void f ( ) { tell - " + EXPRS[row] + " ; tell ! " + EXPRS[row] + " ; if ( " + EXPRS[row] + " ) ; while ( "
          + EXPRS[row] + " ) ; do ; while ( " + EXPRS[row] + " ) ; tell " + EXPRS[row] + " ; throw " + EXPRS[row] + " ; } }");
      due(door, behind(door, "-", 0), minus.charAt(row));
      due(door, behind(door, "!", 0), not.charAt(row));
      for (String word : new String[] {"if", "while", "do"}) Door.due(word + " " + EXPRS[row], door.faultAt(0, behind(door, word, 0)), row == 0 ? 0 : 5);
      Door.due("tell " + EXPRS[row], door.faultAt(0, behind(door, "tell", 2)), KINDS[row].equals("void") ? 5 : 0);
      Door.due("throw " + EXPRS[row], door.faultAt(0, behind(door, "throw", 0)), KINDS[row].equals("null") ? 0 : 5);
    }
  }
}
