import java.util.ArrayList;
import java.util.List;

/** Grows EXPRS of a KIND, from the types of a world and the variables that are there: mostly such that fit. */
abstract class ExprGrower extends Grower {
  static final class Type {
    String name;
    String inPackage;
    int unit;
    boolean isInterface;
    boolean isAbstract;
    // The class above, if it is one of these; otherwise a KNOWN one, or none.
    Type above;
    String known = "";
    final List<Type> listed = new ArrayList<>();
    final List<Field> fields = new ArrayList<>();
    final List<Method> methods = new ArrayList<>();
    final List<Method> starts = new ArrayList<>();

    boolean isBelow(Type other) {
      if (this == other || above != null && above.isBelow(other)) return true;
      for (Type type : listed) {
        if (type.isBelow(other)) return true;
      }
      return false;
    }

    boolean isThrown() {
      return above != null ? above.isThrown() : !known.isEmpty();
    }

    List<Type> allAbove() {
      List<Type> all = new ArrayList<>(listed);
      if (above != null) all.add(0, above);
      return all;
    }

    List<Field> allFields() {
      List<Field> all = new ArrayList<>(fields);
      for (Type type : allAbove()) all.addAll(type.allFields());
      return all;
    }

    List<Method> inherited() {
      List<Method> all = new ArrayList<>();
      for (Type type : allAbove()) all.addAll(type.allMethods());
      return all;
    }

    List<Method> allMethods() {
      List<Method> all = new ArrayList<>(methods);
      all.addAll(inherited());
      return all;
    }
  }

  static final class Field {
    String name;
    String kind;
    boolean isStatic;
    boolean isFinal;
  }

  static final class Method {
    String name;
    String result;
    List<String> kinds = new ArrayList<>();
    boolean isStatic;
    boolean isAbstract;
    List<String> thrown = new ArrayList<>();
  }

  static final class Variable {
    String name;
    String kind;
    boolean isFinal;
    boolean isSet;
  }

  private static final int DEEPEST = 9;
  private static final List<String> NUMBERS = List.of("byte", "int", "long");
  private static final List<String> KNOWN = List.of("Object", "Integer", "Throw", "Slip", "Divide", "Null", "Cast");
  final List<Type> types = new ArrayList<>();
  final List<Variable> variables = new ArrayList<>();
  Type here;
  boolean isStaticHere;
  // How often in a hundred another KIND than the one that fits is taken.
  int noise;
  private int depth;

  ExprGrower(long seed) {
    super(seed);
  }

  abstract boolean isTight();

  static boolean isNumber(String kind) {
    return NUMBERS.contains(kind);
  }

  String kind() {
    int sort = below(14);
    if (sort < 5) return "int";
    if (sort < 7) return sort == 5 ? "byte" : "long";
    if (sort < 9) return "boolean";
    if (sort < 11) return sort == 9 ? "Integer" : "Object";
    return sort == 11 && often(15) ? one("Throw", "Slip", "q", "w") : oneOf(types).name;
  }

  Type named(String name) {
    for (Type type : types) {
      if (type.name.equals(name)) return type;
    }
    return null;
  }

  // ---- EXPRS of a KIND

  void expr(String kind, int most) {
    String wanted = often(noise) ? kind() : kind;
    if (depth > DEEPEST) {
      write(wanted.equals("boolean") ? "true" : isNumber(wanted) ? "1" : "null");
      return;
    }
    depth++;
    int left = isTight() ? Math.min(0, most) : most;
    if (wanted.equals("boolean")) truth(left);
    else if (isNumber(wanted)) number(wanted, left);
    else if (wanted.equals("void")) write("1");
    else ref(wanted, left, false);
    depth--;
  }

  private void truth(int most) {
    int sort = below(most > 0 ? 16 : 5);
    if (sort < 2) write(one("true", "false"));
    else if (sort < 5) write(variable("boolean") || field("boolean") ? "" : one("true", "false"));
    else if (sort < 9) compare(most - 1);
    else if (sort < 11) two("boolean", one("&&", "||"), "boolean", most - 1);
    else if (sort == 11) inBrackets("!", "boolean", most - 1);
    else if (sort == 12) instance(most - 1);
    else if (sort == 13) same(most - 1);
    else if (sort == 14) write(call("boolean", most - 1) ? "" : "true");
    else if (often(50)) choice("boolean", most - 1);
    else write(assigned("boolean", "=", most - 1) ? "" : "false");
  }

  private void compare(int most) {
    expr(one("int", "int", "long", "byte", "Integer"), most);
    write(one("<", "<=", "==", "!="));
    expr("int", most);
  }

  private void instance(int most) {
    ref(often(80) ? oneOf(types).name : "Object", most, true);
    write("instanceof " + (often(75) ? oneOf(types).name : oneOf(KNOWN)));
  }

  private void same(int most) {
    String kind = oneOf(types).name;
    ref(kind, most, true);
    write(one("==", "!="));
    if (often(40)) write("null");
    else ref(often(80) ? kind : oneOf(types).name, most, true);
  }

  private void number(String kind, int most) {
    if (often(35) && variable(kind)) return;
    switch (below(most > 0 ? 16 : 5)) {
      case 0:
      case 1:
      case 2:
        write(often(85) ? "" + below(6) : one("10", "100", "127", "128", "200", "9999"));
        break;
      case 3:
      case 4:
        if (!variable(kind) && !field(kind)) write("" + below(4));
        break;
      case 9:
        if (!call(kind, most - 1)) write("" + below(3));
        break;
      case 10:
        inBrackets("( " + kind + " )", one("int", "long", "byte"), most - 1);
        break;
      case 11:
        choice(kind, most - 1);
        break;
      case 12:
        inBrackets("-", kind.equals("byte") ? "int" : kind, most - 1);
        break;
      case 13:
        if (!assigned(kind, one("=", "=", "+="), most - 1)) write("" + below(3));
        break;
      case 14:
        if (kind.equals("byte") || !variable("Integer") && !field("Integer")) write("" + below(3));
        break;
      default:
        sum(kind, most - 1);
    }
  }

  private void sum(String kind, int most) {
    boolean isByte = kind.equals("byte");
    if (isByte) write("( byte ) (");
    expr(kind.equals("long") ? one("long", "int") : kind, most);
    write(one("+", "-", "*", "div", "%", "+"));
    expr(isByte ? "int" : kind, most);
    if (isByte) write(")");
  }

  private void two(String left, String sign, String right, int most) {
    boolean hasBrackets = often(70);
    write(hasBrackets ? "(" : "");
    expr(left, most);
    write(hasBrackets ? ") " + sign + " (" : sign);
    expr(right, most);
    write(hasBrackets ? ")" : "");
  }

  private void inBrackets(String sign, String kind, int most) {
    write(sign + " (");
    expr(kind, most);
    write(")");
  }

  private void choice(String kind, int most) {
    write("(");
    expr("boolean", most);
    write("?");
    expr(kind, most);
    write(":");
    expr(kind, most);
    write(")");
  }

  private boolean assigned(String kind, String sign, int most) {
    for (Variable variable : variables) {
      if (!variable.kind.equals(kind) || variable.isFinal) continue;
      write("( " + variable.name + " " + sign);
      expr(kind, most);
      write(")");
      return true;
    }
    return false;
  }

  // ---- REFS; some are to have a "." behind them

  private void ref(String kind, int most, boolean isAhead) {
    if (depth > DEEPEST + 3) {
      write("null");
      return;
    }
    depth++;
    Type type = named(kind);
    boolean isThis = type != null && !isStaticHere && here.isBelow(type) && often(30);
    if (isThis) write("this");
    else if (!(often(35) && variable(kind)) && !(often(30) && field(kind))) madeRef(kind, type, most, isAhead);
    depth--;
  }

  private void madeRef(String kind, Type type, int most, boolean isAhead) {
    int sort = below(most > 0 ? 10 : 4);
    if (sort == 9 && call(kind, most - 1)) return;
    if (sort == 8) cast(kind, type, most - 1, isAhead);
    else if (sort == 7) choice(kind, most - 1);
    else if (type == null) knownRef(kind, most - 1, isAhead);
    else newBelow(type, most - 1, isAhead);
  }

  private void cast(String kind, Type type, int most, boolean isAhead) {
    List<Type> others = new ArrayList<>();
    for (Type other : types) {
      if (type != null && (other.isBelow(type) || type.isBelow(other))) others.add(other);
    }
    write((isAhead ? "( " : "") + "( " + kind + " )");
    ref(often(20) ? "Object" : others.isEmpty() ? kind : oneOf(others).name, most, true);
    if (isAhead) write(")");
  }

  private void knownRef(String kind, int most, boolean isAhead) {
    if (kind.equals("Integer")) {
      if (!isAhead && often(80)) expr("int", most);
      else write(isAhead ? "( ( Integer ) 5 )" : "null");
    } else if (kind.equals("Object") && often(40)) {
      write(isAhead ? "(" : "");
      expr(one("int", "Integer", oneOf(types).name), most);
      write(isAhead ? ")" : "");
    } else {
      write(KNOWN.contains(kind) ? "new " + kind + " ( )" : "null");
    }
  }

  private void newBelow(Type type, int most, boolean isAhead) {
    List<Type> made = new ArrayList<>();
    for (Type other : types) {
      if (other.isBelow(type) && !other.isInterface && !other.isAbstract) made.add(other);
    }
    if (made.isEmpty() || !isAhead && often(15)) write(isAhead ? "( ( " + type.name + " ) null )" : "null");
    else make(oneOf(made), most);
  }

  void make(Type type, int most) {
    write("new " + type.name);
    args(type.starts.isEmpty() ? List.of() : oneOf(type.starts).kinds, most);
  }

  // ---- variables, fields, calls

  boolean variable(String kind) {
    List<Variable> fitting = new ArrayList<>();
    for (Variable variable : variables) {
      Type one = named(variable.kind);
      Type two = named(kind);
      boolean fits = variable.kind.equals(kind) || one != null && two != null && one.isBelow(two);
      if (fits && (variable.isSet || often(25))) fitting.add(variable);
    }
    if (!fitting.isEmpty()) write(oneOf(fitting).name);
    return !fitting.isEmpty();
  }

  private boolean field(String kind) {
    Type type = often(60) ? here : oneOf(types);
    for (int k = 0; k < types.size(); k++) {
      for (Field field : type.allFields()) {
        if (!field.kind.equals(kind) || often(20)) continue;
        use(type, field);
        return true;
      }
      type = types.get(k);
    }
    return false;
  }

  private boolean isHidden(String name) {
    for (Variable variable : variables) {
      if (variable.name.equals(name)) return true;
    }
    return false;
  }

  void use(Type type, Field field) {
    boolean isOwn = type == here;
    boolean mayAlone = isOwn && (field.isStatic || !isStaticHere || often(noise)) && (!isHidden(field.name) || often(5));
    if (mayAlone && often(70)) write(field.name);
    else receive(type, field.isStatic, field.name);
  }

  /** What stands ahead of a name that is one of a type. */
  private void receive(Type type, boolean isStatic, String name) {
    if (type == here && !isStaticHere && often(35)) write("this");
    else if (type == here.above && !isStaticHere && often(40)) write("super");
    else if (isStatic && often(75)) write(type.name);
    else ref(type.name, 1, true);
    write(". " + name);
  }

  boolean call(String kind, int most) {
    if (most < -2) return false;
    Type type = often(60) ? here : oneOf(types);
    for (int k = 0; k < types.size(); k++) {
      for (Method method : type.allMethods()) {
        if (!method.result.equals(kind) && often(97) || often(25)) continue;
        boolean mayAlone = type == here && (method.isStatic || !isStaticHere || often(noise));
        if (mayAlone && often(75)) write(method.name);
        else receive(type, method.isStatic, method.name);
        args(method.kinds, most - 1);
        return true;
      }
      type = types.get(k);
    }
    return false;
  }

  void args(List<String> kinds, int most) {
    write("(");
    for (int k = 0; k < kinds.size(); k++) {
      if (k > 0) write(",");
      String kind = kinds.get(k);
      boolean isOther = often(12);
      if (isOther && kind.equals("int")) kind = one("byte", "Integer");
      else if (isOther && kind.equals("long")) kind = one("int", "byte", "Integer");
      expr(kind, most);
    }
    write(")");
  }

  /** What may stand left of = or +=, and its KIND; null if nothing was found (and written). */
  String target() {
    List<Variable> open = new ArrayList<>();
    for (Variable variable : variables) {
      if (!variable.isFinal) open.add(variable);
    }
    if (!open.isEmpty() && often(75)) {
      Variable variable = oneOf(open);
      write(variable.name);
      return variable.kind;
    }
    Type type = often(70) ? here : oneOf(types);
    for (Field field : type.allFields()) {
      if (field.isFinal && often(90) || often(30)) continue;
      use(type, field);
      return field.kind;
    }
    return null;
  }

  // ---- what is folded

  void constant(String kind, int most) {
    if (kind.equals("boolean")) constantTruth(most);
    else if (isNumber(kind) || kind.equals("Integer") || kind.equals("Object")) constantNumber(kind, most);
    else write("null");
  }

  private void constantTruth(int most) {
    int sort = below(most > 0 ? 8 : 2);
    if (sort < 3) {
      write(one("true", "false"));
    } else if (sort < 5) {
      constant("int", most - 1);
      write(one("<", "<=", "==", "!="));
      constant("int", most - 1);
    } else {
      write(sort == 5 ? "! (" : "(");
      constant("boolean", most - 1);
      write(sort == 5 ? "" : one("&&", "||", "==", "!="));
      if (sort > 5) constant("boolean", most - 1);
      write(")");
    }
  }

  private void constantNumber(String kind, int most) {
    switch (below(most > 0 ? 8 : 2)) {
      case 3:
        write("- " + one("1", "2", "128", "129"));
        break;
      case 4:
        write("( " + one("byte", "int", "long") + " )");
        constant("int", 0);
        break;
      case 5:
        if (!constantField()) write("3");
        break;
      case 6:
        write("(");
        constant("boolean", most - 1);
        write("?");
        constant(kind, most - 1);
        write(":");
        constant(kind, most - 1);
        write(")");
        break;
      case 7:
        constant("int", most - 1);
        write(one("+", "-", "*", "div", "%"));
        constant("int", most - 1);
        break;
      default:
        write(often(80) ? "" + below(10) : one("127", "128", "129", "1000", "9999"));
    }
  }

  private boolean constantField() {
    for (Type type : types) {
      for (Field field : type.fields) {
        if (!field.isStatic || !field.isFinal || !isNumber(field.kind) || often(40)) continue;
        write((type == here && often(50) ? "" : type.name + " . ") + field.name);
        return true;
      }
    }
    return false;
  }
}
