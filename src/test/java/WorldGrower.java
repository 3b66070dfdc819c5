import java.util.ArrayList;
import java.util.List;
import java.util.Objects;

/** Grows worlds of classes and interfaces with members, that mostly fit together. */
final class WorldGrower extends BodyGrower {
  private static final String NAMES = "abcdefghi";
  private static final String[] PARAMS = {"x", "y", "u", "v"};
  private int budget;

  WorldGrower(long seed) {
    super(seed);
  }

  @Override
  boolean isTight() {
    return written() > budget;
  }

  @Override
  String[] grow() {
    types.clear();
    noise = one("", "", "x", "xxxx").length();
    String[] units = new String[1 + below(often(60) ? 1 : 4)];
    plan(units.length);
    for (int unit = 0; unit < units.length; unit++) {
      boolean hasMain = often(75);
      // Of what turns out to be too long a shorter one is grown.
      for (int tries = 0; tries < 20; tries++) {
        budget = 215 - 8 * tries;
        unit(unit, hasMain);
        boolean isWhole = written() <= MOST;
        units[unit] = take();
        if (isWhole) break;
      }
    }
    return units;
  }

  // ---- what there is

  private void plan(int units) {
    String inPackage = often(60) ? null : one("p", "q");
    for (int unit = 0; unit < units; unit++) {
      String own = often(90) ? inPackage : one(null, "p", "q");
      for (int k = 1 + below(units > 1 ? 3 : 4); k > 0 && types.size() < NAMES.length(); k--) {
        Type type = new Type();
        type.name = "" + NAMES.charAt(often(97) ? types.size() : below(types.size() + 1));
        type.unit = unit;
        type.inPackage = own;
        type.isInterface = often(20);
        type.isAbstract = !type.isInterface && often(15);
        types.add(type);
      }
    }
    for (int k = 0; k < types.size(); k++) planAbove(types.get(k), k);
    for (Type type : types) planMembers(type);
  }

  private void planAbove(Type type, int index) {
    if (!type.isInterface && often(45)) {
      Type above = types.get(below(index + 1));
      if (often(35)) type.known = one("Throw", "Throw", "Throw", "Slip", "Divide", "Null");
      else if (above != type && !above.isInterface) type.above = above;
    }
    for (Type other : types.subList(0, index)) {
      if (other.isInterface && often(25) && (!type.isBelow(other) || often(10))) type.listed.add(other);
    }
  }

  private void planMembers(Type type) {
    for (int k = below(4); k > 0; k--) planField(type);
    for (int k = below(4); k > 0; k--) planMethod(type);
    for (Method above : type.inherited()) {
      boolean isWanted = above.isAbstract && !type.isAbstract && !type.isInterface;
      if (often(isWanted ? 90 : 20)) planOverriding(type, above);
    }
    for (int k = type.isInterface || often(55) ? 0 : 1 + below(2); k > 0; k--) {
      Method start = new Method();
      start.name = often(98) ? type.name : "f";
      start.result = "";
      for (int p = below(3); p > 0; p--) start.kinds.add(kind());
      start.thrown = planThrown();
      type.starts.add(start);
    }
  }

  private void planField(Type type) {
    Field field = new Field();
    field.name = one("k", "n", "d", "z", "m");
    field.kind = kind();
    field.isStatic = type.isInterface || often(35);
    field.isFinal = type.isInterface || often(25);
    for (Field other : type.fields) {
      if (other.name.equals(field.name) && often(95)) return;
    }
    type.fields.add(field);
  }

  private void planMethod(Type type) {
    Method method = new Method();
    method.name = one("f", "g", "f", "h");
    method.result = often(25) ? "void" : kind();
    for (int p = below(3); p > 0; p--) method.kinds.add(kind());
    method.isAbstract = type.isInterface || type.isAbstract && often(40);
    method.isStatic = !method.isAbstract && often(35);
    method.thrown = planThrown();
    add(type, method);
  }

  private void planOverriding(Type type, Method above) {
    Method method = new Method();
    method.name = above.name;
    method.result = often(93) ? above.result : kind();
    method.kinds = above.kinds;
    method.isAbstract = type.isInterface || type.isAbstract && often(20);
    method.isStatic = !method.isAbstract && above.isStatic == often(97);
    for (String thrown : above.thrown) {
      if (often(60)) method.thrown.add(thrown);
    }
    if (often(5)) method.thrown = planThrown();
    add(type, method);
  }

  private void add(Type type, Method method) {
    for (Method other : type.methods) {
      if (other.name.equals(method.name) && other.kinds.equals(method.kinds) && often(97)) return;
    }
    type.methods.add(method);
  }

  private List<String> planThrown() {
    List<String> thrown = new ArrayList<>();
    if (often(70)) return thrown;
    for (Type type : types) {
      if (type.isThrown() && often(50)) thrown.add(type.name);
    }
    if (often(12)) thrown.add(one("Throw", "Slip", "Divide"));
    return thrown;
  }

  // ---- what is written

  private void unit(int unit, boolean hasMain) {
    List<Type> own = new ArrayList<>();
    for (Type type : types) {
      if (type.unit == unit) own.add(type);
    }
    // Where so many types went that none is left for this unit, it is as good as one in no package.
    String inPackage = own.isEmpty() ? null : own.get(0).inPackage;
    if (inPackage != null) write("package " + inPackage + " ;");
    for (Type type : types) {
      boolean isFar = type.unit != unit && type.inPackage != null && !Objects.equals(type.inPackage, inPackage);
      if (isFar && often(90)) write("import " + type.inPackage + " . " + type.name + " ;");
    }
    if (often(3)) write("import " + one("p", "q") + " . " + one("a", "b", "x") + " ;");
    int main = hasMain ? below(own.size() + 1) : -1;
    for (int k = 0; k < own.size(); k++) type(own.get(k), k == main || main == own.size() && k == 0);
  }

  private void type(Type type, boolean hasMain) {
    here = type;
    write((type.isAbstract ? "abstract " : "") + (type.isInterface ? "interface " : "class ") + type.name);
    if (type.above != null) write("extends " + type.above.name);
    else if (!type.known.isEmpty()) write("extends " + type.known);
    List<String> listed = new ArrayList<>();
    for (Type other : type.listed) listed.add(other.name);
    if (!listed.isEmpty()) write(type.isInterface ? "extends" : "implements");
    list(listed);
    write("{");
    for (Field field : type.fields) field(field);
    if (hasMain && !type.isInterface) method(main(), 8);
    for (Method start : type.starts) method(start, 2);
    for (Method method : type.methods) method(method, 3);
    write("}");
  }

  private void field(Field field) {
    variables.clear();
    isStaticHere = field.isStatic;
    if (!here.isInterface) write((field.isStatic ? "static " : "") + (field.isFinal ? "final" : ""));
    write(field.kind + " " + field.name);
    boolean hasValue = here.isInterface || (field.isFinal ? often(98) : often(45));
    if (hasValue) write("=");
    if (hasValue && field.isFinal && often(60)) constant(field.kind, 2);
    else if (hasValue) expr(field.kind, 2);
    write(";");
  }

  private Method main() {
    Method method = new Method();
    method.name = "M";
    method.isStatic = true;
    method.result = one("int", "void", "boolean", "long", "Object", "Integer");
    method.kinds = List.of("int", "int");
    method.thrown = often(50) ? List.of("Throw") : planThrown();
    return method;
  }

  private void method(Method method, int most) {
    variables.clear();
    around = method;
    isStaticHere = method.isStatic;
    if (!here.isInterface) write((method.isStatic ? "static " : "") + (method.isAbstract ? "abstract" : ""));
    write(method.result + " " + method.name + " (");
    for (int k = 0; k < method.kinds.size(); k++) {
      Variable param = new Variable();
      param.kind = method.kinds.get(k);
      param.name = often(98) ? PARAMS[k] : "x";
      param.isSet = true;
      write((k > 0 ? ", " : "") + param.kind + " " + param.name);
      variables.add(param);
    }
    write(")");
    if (!method.thrown.isEmpty()) write("throws");
    list(method.thrown);
    if (method.isAbstract) write(";");
    else body(method, most);
  }

  private void body(Method method, int most) {
    write("{");
    if (method.result.isEmpty() && often(50)) start(method);
    boolean goesOn = true;
    for (int k = below(most + 1) + (most > 4 ? 2 : 0); k > 0 && !isTight() && (goesOn || often(5)); k--) goesOn &= item(3);
    boolean hasResult = !method.result.isEmpty() && !method.result.equals("void");
    if (hasResult && often(goesOn ? 98 : 5)) {
      write("return");
      expr(method.result, 2);
      write(";");
    }
    write("}");
  }

  /** What a constructor begins with. */
  private void start(Method method) {
    boolean isThis = here.starts.size() > 1 && often(40);
    List<Method> starts = isThis ? new ArrayList<>(here.starts) : here.above == null ? new ArrayList<>() : here.above.starts;
    if (isThis && often(97)) starts.remove(method);
    write(isThis ? "this" : "super");
    isStaticHere = true;
    args(starts.isEmpty() ? List.of() : oneOf(starts).kinds, 1);
    isStaticHere = false;
    write(";");
  }
}
