import java.util.ArrayList;
import java.util.List;

/** Grows the statements of a body, such that most of them are reached. */
abstract class BodyGrower extends ExprGrower {
  Method around;
  private int loops;

  BodyGrower(long seed) {
    super(seed);
  }

  /** A BLOCK; says whether its end may be reached. */
  boolean block(int most, int depth) {
    int known = variables.size();
    boolean goesOn = true;
    write("{");
    for (int k = below(most + 1) + (most > 4 ? 2 : 0); k > 0 && !isTight() && (goesOn || often(5)); k--) goesOn &= item(depth);
    write("}");
    while (variables.size() > known) variables.remove(variables.size() - 1);
    return goesOn;
  }

  boolean item(int depth) {
    if (often(65)) return statement(depth);
    Variable variable = new Variable();
    variable.name = one("s", "t", "i", "j", "z", "w", "r");
    if (isKnown(variable.name) && often(98)) return true;
    variable.kind = kind();
    variable.isFinal = often(15);
    write((variable.isFinal ? "final " : "") + variable.kind + " " + variable.name);
    variable.isSet = variable.isFinal ? often(99) : often(65);
    if (variable.isSet) write("=");
    if (variable.isSet && variable.isFinal && often(70)) constant(variable.kind, 1);
    else if (variable.isSet) expr(variable.kind, 2);
    write(";");
    variables.add(variable);
    return true;
  }

  private boolean isKnown(String name) {
    for (Variable variable : variables) {
      if (variable.name.equals(name)) return true;
    }
    return false;
  }

  private boolean statement(int depth) {
    int sort = below(depth > 0 && !isTight() ? 30 : 11);
    if (sort < 3) return ends("tell", kind());
    if (sort < 6) return assignment();
    if (sort < 8) return callAlone();
    if (sort < 10) return jump();
    if (sort == 10) return often(60) ? ends("tell", "int") : thrown();
    if (sort < 14) return block(3, depth - 1);
    if (sort < 19) return either(depth);
    if (sort < 22) return whileLoop(depth);
    return sort < 24 ? doLoop(depth) : tried(depth);
  }

  private boolean ends(String word, String kind) {
    write(word);
    expr(kind, 2);
    write(";");
    return true;
  }

  private boolean assignment() {
    String kind = target();
    if (kind == null) {
      write("new Object ( ) ;");
    } else {
      boolean adds = isNumber(kind) && often(35);
      ends(adds ? "+=" : "=", adds ? one("int", "int", "byte", "long", "Integer") : kind);
    }
    return true;
  }

  private boolean callAlone() {
    if (!call(often(50) ? "void" : kind(), 2)) write("new Slip ( )");
    write(";");
    return true;
  }

  private boolean jump() {
    int sort = below(20);
    if (loops > 0 && sort < 12 || often(1)) {
      write(one("break", "continue") + " ;");
      return false;
    }
    if (sort < 14) {
      write(";");
      return true;
    }
    if (sort < 16) return thrown();
    write("return");
    if (!around.result.equals("void") && !around.result.isEmpty()) expr(around.result, 2);
    write(";");
    return false;
  }

  private boolean thrown() {
    List<Type> made = new ArrayList<>();
    for (Type type : types) {
      if (type.isThrown() && !type.isAbstract) made.add(type);
    }
    write("throw");
    if (!made.isEmpty() && often(70)) make(oneOf(made), 1);
    else if (often(75) || !variable("Throw")) write(often(20) ? "null" : "new " + one("Slip", "Divide", "Null", "Throw") + " ( )");
    write(";");
    return false;
  }

  private void test(boolean isTrue) {
    write("(");
    if (isTrue) write(often(95) ? "true" : "false");
    else expr("boolean", 3);
    write(")");
  }

  private boolean either(int depth) {
    write("if");
    test(false);
    boolean goesOn = statement(depth - 1);
    if (often(55)) return true;
    write("else");
    return statement(depth - 1) || goesOn;
  }

  private boolean whileLoop(int depth) {
    boolean isTrue = often(25);
    write("while");
    test(isTrue);
    int place = written();
    loops++;
    statement(depth - 1);
    loops--;
    return !isTrue || hasBehind(place, "break");
  }

  private boolean doLoop(int depth) {
    boolean isTrue = often(15);
    write("do");
    int place = written();
    loops++;
    boolean goesOn = statement(depth - 1);
    loops--;
    boolean hasBreak = hasBehind(place, "break");
    goesOn |= hasBehind(place, "continue");
    write("while");
    test(isTrue);
    write(";");
    return goesOn && !isTrue || hasBreak;
  }

  private boolean tried(int depth) {
    write("try");
    boolean goesOn = block(3, depth - 1);
    int catches = below(3);
    List<String> row = caught();
    for (int k = 0; k < catches; k++) {
      Variable variable = new Variable();
      variable.kind = row.get(Math.min(k, row.size() - 1));
      variable.name = one("o", "e", "h", "l");
      if (isKnown(variable.name) && often(97)) variable.name = "q";
      variable.isSet = true;
      write("catch ( " + variable.kind + " " + variable.name + " )");
      variables.add(variable);
      goesOn |= block(2, depth - 1);
      variables.remove(variables.size() - 1);
    }
    if (catches > 0 && often(65)) return goesOn;
    write("finally");
    return block(2, depth - 1) && goesOn;
  }

  /** What may be caught one after the other. */
  private List<String> caught() {
    List<String> row = new ArrayList<>(List.of("Null", "Cast", "Divide", "Slip", "Throw"));
    row = new ArrayList<>(row.subList(below(4), 5));
    for (Type type : types) {
      if (type.isThrown() && often(50)) row.add(often(80) ? 0 : row.size(), type.name);
    }
    return row;
  }
}
