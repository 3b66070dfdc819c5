import java.util.ArrayList;
import java.util.List;

/** Grows types that stand above one another, with packages and imports, and methods that override one another. */
final class TypeGrower extends Grower {
  private static final String[] NAMES = {"a", "b", "c", "d", "e", "f"};
  private final List<String> interfaces = new ArrayList<>();
  private final List<String> classes = new ArrayList<>();
  private boolean isCalm;
  private int many;

  TypeGrower(long seed) {
    super(seed);
  }

  @Override
  String[] grow() {
    interfaces.clear();
    classes.clear();
    many = 0;
    isCalm = often(60);
    boolean isOne = often(60);
    String[] units = new String[1 + below(4)];
    for (int unit = 0; unit < units.length; unit++) {
      String inPackage = isOne ? "p" : one("", "p", "p", "q");
      if (!inPackage.isEmpty()) write("package " + inPackage + " ;");
      for (int k = isOne && isCalm ? 0 : below(4); k > 0; k--) write("import " + one("p", "p", "q", "m") + " . " + one(NAMES) + " ;");
      for (int k = 1 + below(5); k > 0 && written() < 200; k--) type(often(40));
      units[unit] = take();
    }
    return units;
  }

  private void type(boolean isInterface) {
    String name = isCalm && many < 12 ? "" + (char) ('a' + many) : one(NAMES);
    (isInterface ? interfaces : classes).add(name);
    many++;
    if (!isInterface && often(20)) write("abstract");
    write((isInterface ? "interface " : "class ") + name);
    if (often(60)) above(isInterface ? interfaces : classes, "extends", isInterface ? 1 + below(3) : 1);
    if (!isInterface && often(50)) above(interfaces, "implements", 1 + below(3));
    write("{");
    for (int k = below(4); k > 0; k--) {
      if (often(35)) field(isInterface);
      else method(isInterface);
    }
    if (!isInterface && often(30)) constructor(name);
    write("}");
  }

  private void above(List<String> from, String word, int most) {
    boolean isWild = !isCalm || often(8) || from.size() < 2;
    if (isWild && isCalm && often(80)) return;
    List<String> list = new ArrayList<>();
    for (int k = 0; k < most; k++) list.add(isWild ? wildRef() : from.get(below(from.size() - 1)));
    write(word);
    list(list);
  }

  private String wildRef() {
    return often(12) ? one("Object", "Integer", "Throw", "Slip", "x", "Null") : one(NAMES);
  }

  private String kind() {
    if (often(50)) return one("int", "Object", "Integer", "Throw");
    List<String> from = often(50) && !interfaces.isEmpty() || classes.isEmpty() ? interfaces : classes;
    return isCalm && often(97) ? oneOf(from) : often(90) ? one(NAMES) : "x";
  }

  private String valueOf(String kind) {
    return isCalm && often(97) == kind.equals("int") ? "1" : one("null", "null", "1");
  }

  private void field(boolean isInterface) {
    String kind = kind();
    if (!isInterface) write(one("", "", "static", "final"));
    write(kind + " " + one("k", "n") + (isInterface || often(60) ? " = " + valueOf(kind) : "") + " ;");
  }

  private void method(boolean isInterface) {
    boolean isAbstract = isInterface || often(15);
    if (!isInterface) write(isAbstract ? "abstract" : often(25) ? "static" : "");
    String result = often(60) ? "void" : kind();
    write(result + " " + one("f", "g") + " ( " + (often(40) ? kind() + " x" : "") + " )");
    if (often(30)) thrown();
    write(isAbstract ? ";" : result.equals("void") ? "{ }" : "{ return " + valueOf(result) + " ; }");
  }

  private void thrown() {
    write("throws");
    list(isCalm && often(95) ? some(1, "Throw", "Slip", "Divide") : some(1 + below(2), "Throw", "Slip", "a", "b", "c", "d", "Object", "x", "Divide"));
  }

  private void constructor(String name) {
    write((often(90) ? name : one(NAMES)) + " ( " + (often(60) ? kind() + " x" : "") + " )");
    if (often(30)) thrown();
    write("{");
    if (often(40)) write(one("super", "super", "this") + " ( " + one("", "", "1", "null", "x", "this", "k") + " ) ;");
    if (often(20)) write("k = 1 ;");
    write("}");
  }
}
