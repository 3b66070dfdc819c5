/** Grows one method in which statements stand within one another: what is reached, set, raised and run. */
final class FlowGrower extends Grower {
  private static final String HEAD = "class e extends Throw { } class d extends e { } class a { ";
  private boolean isVoid;
  private int loops;
  private int fresh;

  FlowGrower(long seed) {
    super(seed);
  }

  @Override
  String[] grow() {
    loops = 0;
    fresh = 0;
    isVoid = often(40);
    write(HEAD + "static int f ( int x ) " + one("throws d", "throws e", "throws Slip", "") + " { return x + 1 ; } static int g ( int x ) "
        + one("throws d , Slip", "throws Throw", "", "") + " { return x - 1 ; } static void h ( int x ) { tell x ; }");
    write("static " + (isVoid ? "void" : "int") + " M ( int x , int y )" + (often(70) ? " throws " + one("Throw", "e", "d", "d , Slip") : "") + " {");
    write("int s" + one(" = 0 ;", " ;") + " int t" + one(" = 1 ;", " ;") + " int w" + one(" = y ;", " ;", " ;"));
    write(one("boolean u = true ; boolean v ;", "boolean u ; boolean v = false ;", "boolean u ; boolean v ;", "final boolean u = true ; boolean v ;"));
    items(6, 4);
    if (!isVoid && often(70)) write("return " + number(1) + " ;");
    write("} }");
    return new String[] {take()};
  }

  private boolean isTight() {
    return written() > 200;
  }

  private String truth(int depth) {
    switch (below(depth > 0 ? 14 : 5)) {
      case 0: return one("true", "false");
      case 1: return one("u", "v");
      case 2:
      case 3: return "x < " + below(4);
      case 4: return one("s", "t", "w", "x") + " < " + below(5);
      case 5: return "( " + one("s", "t", "w") + " = " + below(4) + " ) == " + below(3);
      case 6:
      case 7: return "( " + truth(depth - 1) + " && " + truth(depth - 1) + " )";
      case 8:
      case 9: return "( " + truth(depth - 1) + " || " + truth(depth - 1) + " )";
      case 10: return "! ( " + truth(depth - 1) + " )";
      case 11: return "( " + truth(depth - 1) + " ? " + truth(depth - 1) + " : " + truth(depth - 1) + " )";
      case 12: return "( " + one("u", "v") + " = " + truth(depth - 1) + " )";
      default: return "( " + truth(depth - 1) + " == " + truth(depth - 1) + " )";
    }
  }

  private String number(int depth) {
    switch (below(depth > 0 ? 10 : 4)) {
      case 0: return "" + below(4);
      case 1: return "x";
      case 2:
      case 3: return one("s", "t", "w");
      case 4: return "( " + one("s", "t", "w") + " = " + number(depth - 1) + " )";
      case 5: return "( " + truth(depth - 1) + " ? " + number(depth - 1) + " : " + number(depth - 1) + " )";
      case 6: return "( " + one("s", "t", "w") + " += " + number(depth - 1) + " )";
      case 7: return one("f", "g") + " ( " + number(depth - 1) + " )";
      default: return number(depth - 1) + one(" + ", " * ", " - ", " div ", " div - ", " % ") + below(4);
    }
  }

  private void items(int most, int depth) {
    for (int k = below(most + 1); k > 0 && !isTight(); k--) {
      if (often(10)) local();
      else statement(depth);
    }
  }

  private void block(int most, int depth) {
    write("{");
    items(most, depth);
    write("}");
  }

  private void local() {
    String name = "" + (char) ('A' + fresh++ % 12);
    write("int " + name + (often(60) ? " = " + number(1) : "") + " ;");
    if (often(50)) write("tell " + name + " ;");
  }

  private void statement(int depth) {
    int sort = below(depth > 0 && !isTight() ? 22 : 8);
    if (sort < 8) plain(sort);
    else if (sort < 10) block(3, depth - 1);
    else if (sort < 14) either(depth);
    else if (sort < 17) loop("while ( " + (often(40) ? one("true", "true", "false") : truth(2)) + " )", depth, "");
    else if (sort < 19) loop("do", depth, "while ( " + (often(40) ? one("true", "false") : truth(2)) + " ) ;");
    else tried(depth);
  }

  private void plain(int sort) {
    switch (sort) {
      case 0:
        write("tell " + number(2) + " ;");
        break;
      case 1:
      case 2:
        write(one("s", "t", "w") + one(" = ", " = ", " += ") + number(1) + " ;");
        break;
      case 3:
        write(one("u", "v") + " = " + truth(1) + " ;");
        break;
      case 4:
        write((loops > 0 ? one("break", "continue") : "") + " ;");
        break;
      case 5:
        write(often(60) ? ";" : isVoid ? "return ;" : "return " + number(1) + " ;");
        break;
      case 6:
        write(often(50) ? "tell 1 ;" : "throw " + one("new e ( )", "new d ( )", "new Slip ( )", "null", "new Divide ( )") + " ;");
        break;
      default:
        write(one("f", "g", "h") + " ( " + number(1) + " ) ;");
    }
  }

  private void either(int depth) {
    write("if ( " + truth(2) + " )");
    statement(depth - 1);
    if (often(50)) return;
    write("else");
    statement(depth - 1);
  }

  private void loop(String head, int depth, String tail) {
    write(head);
    loops++;
    statement(depth - 1);
    loops--;
    write(tail);
  }

  private void tried(int depth) {
    write("try");
    block(3, depth - 1);
    int catches = below(3);
    String[] row = often(60) ? new String[] {"d", "e", "Throw"} : new String[] {"Null", "Slip", "Throw"};
    int next = below(3);
    for (int k = 0; k < catches; k++) {
      String caught = often(15) ? one("Slip", "Divide", "d", "e") : row[Math.min(2, next++)];
      write("catch ( " + caught + " " + (char) ('m' + fresh++ % 5) + " )");
      block(2, depth - 1);
    }
    if (catches > 0 && often(60)) return;
    write("finally");
    block(2, depth - 1);
  }
}
