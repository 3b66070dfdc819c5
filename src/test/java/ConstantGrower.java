/** Grows classes of final fields that hang on one another, by all signs that are folded. */
final class ConstantGrower extends Grower {
  private static final String[] OWNERS = {"a", "b", "c", "d"};
  // The second and the fourth one are boolean.
  private static final String[] NAMES = {"k", "q", "n", "r", "m"};

  ConstantGrower(long seed) {
    super(seed);
  }

  @Override
  String[] grow() {
    String[] units = new String[1 + below(2)];
    int many = units.length == 1 ? 3 : 2;
    for (int unit = 0; unit < units.length; unit++) {
      for (int k = 0; k < many; k++) type(OWNERS[unit * many + k], often(30));
      units[unit] = take();
    }
    return units;
  }

  private void type(String name, boolean isInterface) {
    int fields = often(90) ? 3 + below(3) : below(3);
    write((isInterface ? "interface " : "class ") + name + " {");
    for (int k = 0; k < fields && written() < 180; k++) field(k, isInterface);
    if (!isInterface && often(50)) method();
    write("}");
  }

  private void field(int k, boolean isInterface) {
    boolean isTruth = often(97) == (k % 2 == 1);
    String kind = isTruth ? "boolean" : one("int", "int", "int", "byte", "long", "Integer");
    boolean isCast = kind.equals("byte") && often(80);
    if (!isInterface) write((often(97) ? "static " : "") + (often(97) ? "final" : ""));
    write(kind + " " + (often(97) ? NAMES[k] : "k") + " = ");
    write((isCast ? "( byte ) ( " + number(1) + " )" : often(97) == isTruth ? truth(2) : number(2)) + " ;");
  }

  private void method() {
    write("static int M ( int x , int y ) { final byte b = " + number(1) + " ; final int i = " + number(1) + " ; byte j = " + one("1", "1", "i") + " ; tell b ; ");
    write("while ( " + truth(1) + " ) { tell i ; if ( " + truth(1) + " ) break ; } return " + number(1) + " ; }");
  }

  private String number(int depth) {
    switch (below(depth > 0 && written() < 200 ? 10 : 3)) {
      case 0: return one("0", "1", "2", "3", "127", "128", "129", "5", "7");
      case 1: return one("k", "n", "k", often(20) ? "m" : "1");
      case 2: return one("a", "a", "b") + " . " + one("k", "n", "k");
      case 3:
      case 4: return "( " + number(depth - 1) + one(" + ", " - ", " * ", " div ", " % ") + number(depth - 1) + " )";
      case 5: return "( " + truth(depth - 1) + " ? " + number(depth - 1) + " : " + number(depth - 1) + " )";
      case 6: return "( " + (often(90) ? one("byte", "int", "byte") : one("long", "Integer", "Object")) + " ) ( " + number(depth - 1) + " )";
      case 7: return "- ( " + number(depth - 1) + " )";
      default: return "" + below(9);
    }
  }

  private String truth(int depth) {
    switch (below(depth > 0 && written() < 200 ? 8 : 2)) {
      case 0: return one("true", "false");
      case 1: return one("q", "q", "true", often(20) ? "r" : "false");
      case 2:
      case 3: return number(depth - 1) + one(" < ", " <= ", " == ", " != ") + number(depth - 1);
      case 4: return "( " + truth(depth - 1) + one(" && ", " || ", " == ", " != ") + truth(depth - 1) + " )";
      case 5: return "! ( " + truth(depth - 1) + " )";
      case 6: return "( " + truth(depth - 1) + " ? " + truth(depth - 1) + " : " + truth(depth - 1) + " )";
      default: return one("a", "a", "b") + " . q";
    }
  }
}
