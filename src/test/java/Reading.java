import java.util.ArrayList;
import java.util.HashMap;
import java.util.HashSet;
import java.util.LinkedHashSet;
import java.util.List;
import java.util.Map;
import java.util.Set;
import java.util.TreeSet;

/**
 * A second reading of the document, for the tests: texts become trees, and each question goes through them anew,
 * by calls that call themselves, as the document's sentences do. Nothing of it is taken from the class itself.
 */
final class Reading {
  static final String[] KNOWN = {"Object", "Integer", "Throw", "Slip", "Divide", "Null", "Cast"};
  private static final Set<String> SIMPLE = Set.of("boolean", "byte", "int", "long");

  // ---- what the trees are made of

  static final class Type {
    int unit;
    int at;
    String name;
    String pack = "";
    boolean isInterface;
    boolean isAbstract;
    boolean isKnown;
    boolean isCycle;
    Ref extended;
    List<Ref> listed = new ArrayList<>();
    List<Member> members = new ArrayList<>();
    List<Type> above;
    List<Member> methods;

    String full() {
      return pack.isEmpty() ? name : pack + "." + name;
    }

    List<Member> own(char sort) {
      List<Member> all = new ArrayList<>();
      for (Member m : members) {
        if (m.sort == sort && !m.isTwice) all.add(m);
      }
      return all;
    }
  }

  static final class Ref {
    int unit;
    int at;
    String word;
    Type means;
  }

  /** A FIELD (F), METHOD (M) or CONSTRUCTOR (C; without a place, if a class has none). */
  static final class Member {
    char sort;
    Type owner;
    int at = -1;
    String name;
    boolean isStatic;
    boolean isFinal;
    boolean isAbstract;
    boolean isTwice;
    Ref ref;
    Object kind = "void";
    List<Var> params = new ArrayList<>();
    List<Ref> thrown = new ArrayList<>();
    List<Stmt> body;
    Expr start;
    Expr value;
    int from = -1;
    int to = -1;
    boolean isClean;
    // 0 not looked at, 1 it is being looked at, 2 it was
    int looked;
    Object fixed;
  }

  static final class Var {
    String name;
    int at;
    Ref ref;
    Object kind;
    boolean isFinal;
    boolean isParam;
    Object fixed;
  }

  static final class Expr {
    String op;
    int at;
    String word;
    List<Expr> parts = new ArrayList<>();
    List<Expr> args = new ArrayList<>();
    Ref ref;
    Object castKind;
    boolean isAhead;
    boolean isShut;
    Object type;
    Object fixed;
    // A Var, a Member, a Type, or "known" for the CONSTRUCTOR of a KNOWN class
    Object means;
    int phase;
    int applies;
  }

  static final class Stmt {
    String word;
    int at;
    Expr expr;
    Var local;
    List<Stmt> block;
    Stmt one;
    Stmt two;
    List<Catch> catches = new ArrayList<>();
    List<Stmt> last;
    Stmt loop;
    boolean isReached;
    boolean completes;
    Map<String, Boolean> set = new HashMap<>();
  }

  static final class Catch {
    Ref ref;
    Var name;
    List<Stmt> block;
  }

  /** The text of a UNIT is broken at a place. */
  static final class Broken extends RuntimeException {
    private static final long serialVersionUID = 1;
    final int place;

    Broken(int place) {
      super(null, null, false, false);
      this.place = place;
    }
  }

  final String[][] words = new String[4][];
  final String[] packs = {"", "", "", ""};
  final boolean[] broken = new boolean[4];
  final List<List<Ref[]>> imports = new ArrayList<>();
  final List<Type> types = new ArrayList<>();
  final Map<String, Type> known = new HashMap<>();
  final List<TreeSet<Integer>> faults = new ArrayList<>();
  final List<Map<Integer, Expr>> exprs = new ArrayList<>();
  final List<Map<Integer, Stmt>> stmts = new ArrayList<>();

  Reading(String... texts) {
    for (String name : KNOWN) {
      Type type = new Type();
      type.name = name;
      type.isKnown = true;
      type.unit = -1;
      known.put(name, type);
    }
    Type object = known.get("Object");
    object.above = List.of();
    known.get("Integer").above = List.of(object);
    known.get("Throw").above = List.of(object);
    known.get("Slip").above = List.of(known.get("Throw"));
    for (String name : new String[] {"Divide", "Null", "Cast"}) known.get(name).above = List.of(known.get("Slip"));
    for (Type type : known.values()) type.methods = List.of();
    for (int unit = 0; unit < 4; unit++) {
      imports.add(new ArrayList<>());
      faults.add(new TreeSet<>());
      exprs.add(new HashMap<>());
      stmts.add(new HashMap<>());
      words[unit] = unit < texts.length ? Door.plain(texts[unit]).toArray(new String[0]) : new String[0];
    }
    for (int unit = 0; unit < 4; unit++) {
      Reader reader = new Reader(unit);
      try {
        reader.unit();
        types.addAll(reader.found);
        packs[unit] = reader.pack;
        imports.get(unit).addAll(reader.imported);
      } catch (Broken e) {
        broken[unit] = true;
        exprs.get(unit).clear();
        stmts.get(unit).clear();
        fault(unit, e.place, 1);
      }
    }
    new Links().all();
    new Check().all();
    new Ways().all();
  }

  void fault(int unit, int place, int number) {
    faults.get(unit).add(place * 32 + number);
  }

  boolean isName(String word) {
    return word.length() == 1 && Character.isLetter(word.charAt(0));
  }

  boolean isRef(String word) {
    return isName(word) || known.containsKey(word);
  }

  static String textOf(Object kind) {
    return kind == null ? "?" : kind instanceof Type ? ((Type) kind).full() : (String) kind;
  }

  // ---- section 2

  final class Reader {
    final int unit;
    final String[] w;
    int pos;
    int open;
    String pack = "";
    List<Type> found = new ArrayList<>();
    List<Ref[]> imported = new ArrayList<>();
    Type type;

    Reader(int unit) {
      this.unit = unit;
      this.w = words[unit];
    }

    String peek(int more) {
      return pos + more < w.length ? w[pos + more] : "";
    }

    boolean is(String word) {
      return peek(0).equals(word);
    }

    boolean maybe(String word) {
      if (!is(word)) return false;
      need(word);
      return true;
    }

    void need(String word) {
      if (!is(word)) throw new Broken(pos);
      if (word.equals("(") || word.equals("{")) {
        if (open == 8) throw new Broken(pos);
        open++;
      }
      if (word.equals(")") || word.equals("}")) open--;
      pos++;
    }

    String name() {
      if (!isName(peek(0))) throw new Broken(pos);
      return w[pos++];
    }

    Ref ref() {
      if (!isRef(peek(0))) throw new Broken(pos);
      Ref ref = new Ref();
      ref.unit = unit;
      ref.at = pos;
      ref.word = w[pos++];
      return ref;
    }

    /** A REF, or null for the others, whose word is left in the given one. */
    Ref kind(String[] word) {
      if (SIMPLE.contains(peek(0))) {
        word[0] = w[pos++];
        return null;
      }
      return ref();
    }

    void unit() {
      if (maybe("package")) {
        pack = name();
        need(";");
      }
      while (maybe("import")) {
        Ref[] both = {new Ref(), new Ref()};
        both[0].at = pos;
        both[0].word = name();
        need(".");
        both[1].at = pos;
        both[1].word = name();
        need(";");
        imported.add(both);
      }
      while (pos < w.length) type();
    }

    void type() {
      type = new Type();
      type.unit = unit;
      type.pack = pack;
      type.isAbstract = maybe("abstract");
      type.isInterface = !type.isAbstract && maybe("interface");
      if (!type.isInterface) need("class");
      type.at = pos;
      type.name = name();
      if (type.isInterface) {
        if (maybe("extends")) refs(type.listed);
      } else {
        if (maybe("extends")) type.extended = ref();
        if (maybe("implements")) refs(type.listed);
      }
      found.add(type);
      need("{");
      while (!is("}")) {
        if (type.isInterface) slot();
        else member();
      }
      need("}");
    }

    void refs(List<Ref> all) {
      do all.add(ref()); while (maybe(","));
    }

    Member add(char sort) {
      Member m = new Member();
      m.sort = sort;
      m.owner = type;
      type.members.add(m);
      return m;
    }

    void member() {
      if (isName(peek(0)) && peek(1).equals("(")) {
        Member m = add('C');
        m.at = pos;
        m.name = name();
        params(m);
        m.from = pos;
        need("{");
        if ((is("this") || is("super")) && peek(1).equals("(")) {
          m.start = at("start");
          m.start.word = w[pos++];
          args(m.start);
          need(";");
        }
        m.body = new ArrayList<>();
        while (!is("}")) m.body.add(item());
        m.to = pos;
        need("}");
        return;
      }
      boolean isAbstract = maybe("abstract");
      boolean isStatic = !isAbstract && maybe("static");
      boolean isFinal = !isAbstract && maybe("final");
      String[] word = {null};
      Ref ref = null;
      boolean isVoid = !isFinal && is("void");
      if (isVoid) need("void");
      else ref = kind(word);
      int at = pos;
      String name = name();
      if (isVoid || isAbstract || !isFinal && is("(")) {
        Member m = add('M');
        fill(m, at, name, ref, isVoid ? "void" : word[0]);
        m.isAbstract = isAbstract;
        m.isStatic = isStatic;
        params(m);
        if (isAbstract) {
          need(";");
        } else {
          m.from = pos;
          m.body = block();
          m.to = pos - 1;
        }
        return;
      }
      Member m = add('F');
      fill(m, at, name, ref, word[0]);
      m.isStatic = isStatic;
      m.isFinal = isFinal;
      if (maybe("=")) value(m);
      need(";");
    }

    void fill(Member m, int at, String name, Ref ref, String word) {
      m.at = at;
      m.name = name;
      m.ref = ref;
      m.kind = word;
    }

    void value(Member m) {
      m.from = pos;
      m.value = expr();
      m.to = pos;
    }

    void slot() {
      String[] word = {null};
      Ref ref = null;
      boolean isVoid = maybe("void");
      if (!isVoid) ref = kind(word);
      int at = pos;
      String name = name();
      if (isVoid || is("(")) {
        Member m = add('M');
        fill(m, at, name, ref, isVoid ? "void" : word[0]);
        m.isAbstract = true;
        params(m);
      } else {
        need("=");
        Member m = add('F');
        fill(m, at, name, ref, word[0]);
        m.isStatic = true;
        m.isFinal = true;
        value(m);
      }
      need(";");
    }

    void params(Member m) {
      need("(");
      if (!is(")")) {
        do m.params.add(var(true)); while (maybe(","));
      }
      need(")");
      if (maybe("throws")) refs(m.thrown);
    }

    Var var(boolean isParam) {
      Var v = new Var();
      String[] word = {null};
      v.ref = kind(word);
      v.kind = word[0];
      v.at = pos;
      v.name = name();
      v.isParam = isParam;
      return v;
    }

    List<Stmt> block() {
      List<Stmt> all = new ArrayList<>();
      need("{");
      while (!is("}")) all.add(item());
      need("}");
      return all;
    }

    Stmt item() {
      boolean isLocal = is("final") || SIMPLE.contains(peek(0)) || known.containsKey(peek(0)) || isName(peek(0)) && isName(peek(1));
      if (!isLocal) return statement();
      Stmt s = begin("local");
      boolean isFinal = maybe("final");
      s.local = var(false);
      s.local.isFinal = isFinal;
      if (maybe("=")) s.expr = expr();
      need(";");
      return s;
    }

    Stmt begin(String word) {
      Stmt s = new Stmt();
      s.word = word;
      s.at = pos;
      stmts.get(unit).put(pos, s);
      return s;
    }

    Stmt statement() {
      Stmt s = begin(peek(0));
      switch (s.word) {
        case "{":
          s.block = block();
          return s;
        case ";":
          need(";");
          return s;
        case "if":
          need("if");
          test(s);
          s.one = statement();
          if (maybe("else")) s.two = statement();
          return s;
        case "while":
          need("while");
          test(s);
          s.one = statement();
          return s;
        case "do":
          need("do");
          s.one = statement();
          need("while");
          test(s);
          need(";");
          return s;
        case "break":
        case "continue":
          need(s.word);
          need(";");
          return s;
        case "return":
          need("return");
          if (!is(";")) s.expr = expr();
          need(";");
          return s;
        case "throw":
        case "tell":
          need(s.word);
          s.expr = expr();
          need(";");
          return s;
        case "try":
          attempt(s);
          return s;
        default:
          s.word = "expr";
          s.expr = expr();
          need(";");
          return s;
      }
    }

    void test(Stmt s) {
      need("(");
      s.expr = expr();
      need(")");
    }

    void attempt(Stmt s) {
      need("try");
      s.block = block();
      while (maybe("catch")) {
        Catch c = new Catch();
        need("(");
        c.ref = ref();
        c.name = new Var();
        c.name.at = pos;
        c.name.name = name();
        c.name.isParam = true;
        need(")");
        c.block = block();
        s.catches.add(c);
      }
      if (maybe("finally")) s.last = block();
      else if (s.catches.isEmpty()) throw new Broken(pos);
    }

    Expr at(String op) {
      return at(op, pos);
    }

    Expr at(String op, int place) {
      Expr e = new Expr();
      e.op = op;
      e.at = place;
      exprs.get(unit).put(place, e);
      return e;
    }

    Expr expr() {
      Expr left = cond();
      if (!is("=") && !is("+=")) return left;
      Expr e = at("set");
      e.word = w[pos++];
      e.parts.add(left);
      e.parts.add(expr());
      return e;
    }

    Expr cond() {
      Expr test = binary(1);
      if (!is("?")) return test;
      Expr e = at("choice");
      need("?");
      e.parts.add(test);
      e.parts.add(expr());
      need(":");
      e.parts.add(cond());
      return e;
    }

    int bind(String sign) {
      switch (sign) {
        case "||": return 1;
        case "&&": return 2;
        case "==":
        case "!=": return 3;
        case "<":
        case "<=":
        case "instanceof": return 4;
        case "+":
        case "-": return 5;
        case "*":
        case "div":
        case "%": return 6;
        default: return 0;
      }
    }

    Expr binary(int least) {
      Expr left = unary(0);
      while (bind(peek(0)) >= least) {
        Expr e = at("binary");
        e.word = w[pos++];
        e.parts.add(left);
        if (e.word.equals("instanceof")) {
          e.op = "instanceof";
          e.ref = ref();
          if (bind(peek(0)) > bind("instanceof")) throw new Broken(pos);
        } else {
          e.parts.add(binary(bind(e.word) + 1));
        }
        left = e;
      }
      return left;
    }

    boolean isCast() {
      if (!is("(")) return false;
      if (SIMPLE.contains(peek(1))) return true;
      if (!isRef(peek(1)) || !peek(2).equals(")")) return false;
      String next = peek(3);
      boolean isWord = Set.of("(", "!", "this", "super", "new", "null", "true", "false").contains(next);
      return isWord || isRef(next) || !next.isEmpty() && Character.isDigit(next.charAt(0));
    }

    Expr unary(int within) {
      boolean isSign = is("-") || is("!");
      boolean casts = isCast();
      if (!isSign && !casts) return post();
      if (within == 8) throw new Broken(pos);
      Expr e = at(isSign ? peek(0).equals("-") ? "minus" : "not" : "cast");
      if (casts) {
        need("(");
        String[] word = {null};
        e.ref = kind(word);
        e.castKind = word[0];
        need(")");
      } else {
        pos++;
      }
      e.parts.add(unary(within + 1));
      return e;
    }

    Expr post() {
      Expr e = primary();
      while (is(".")) {
        if (e.op.equals("name") && !e.isShut) e.isAhead = true;
        need(".");
        Expr more = at("field");
        more.word = name();
        more.parts.add(e);
        if (is("(")) {
          more.op = "dotcall";
          args(more);
        }
        e = more;
      }
      return e;
    }

    Expr primary() {
      String word = peek(0);
      if (word.isEmpty()) throw new Broken(pos);
      if (Character.isDigit(word.charAt(0)) || word.equals("true") || word.equals("false") || word.equals("null") || word.equals("this")) {
        Expr e = at(word.equals("null") || word.equals("this") ? word : "literal");
        e.word = word;
        pos++;
        return e;
      }
      if (word.equals("super")) {
        pos++;
        need(".");
        int at = pos;
        String name = name();
        Expr e = at("superfield", at);
        e.word = name;
        if (is("(")) {
          e.op = "supercall";
          args(e);
        }
        return e;
      }
      if (word.equals("new")) {
        Expr e = at("new");
        pos++;
        e.ref = ref();
        args(e);
        return e;
      }
      if (word.equals("(")) {
        need("(");
        if (known.containsKey(peek(0))) throw new Broken(peek(1).equals(")") ? pos + 2 : pos + 1);
        Expr e = expr();
        need(")");
        e.isShut = true;
        return e;
      }
      int at = pos;
      String name = name();
      Expr e = at("name", at);
      e.word = name;
      if (is("(")) {
        e.op = "call";
        args(e);
      }
      return e;
    }

    void args(Expr e) {
      need("(");
      if (!is(")")) {
        do e.args.add(expr()); while (maybe(","));
      }
      need(")");
    }
  }

  // ---- section 3

  Type named(String pack, String name) {
    for (Type type : types) {
      if (type.pack.equals(pack) && type.name.equals(name)) return type;
    }
    return null;
  }

  boolean hasItself(int unit, String name) {
    for (Type type : types) {
      if (type.unit == unit && type.name.equals(name)) return true;
    }
    return false;
  }

  Type means(int unit, String word) {
    if (known.containsKey(word)) return known.get(word);
    if (hasItself(unit, word)) return named(packs[unit], word);
    for (Ref[] each : imports.get(unit)) {
      if (!each[1].word.equals(word)) continue;
      Type type = named(each[0].word, word);
      if (type != null) return type;
      break;
    }
    return named(packs[unit], word);
  }

  boolean isSubtype(Type one, Type two) {
    if (one == two || two == known.get("Object")) return true;
    for (Type above : one.above) {
      if (isSubtype(above, two)) return true;
    }
    return false;
  }

  boolean isThrow(Type type) {
    return isSubtype(type, known.get("Throw"));
  }

  boolean isChecked(Type type) {
    return isThrow(type) && !isSubtype(type, known.get("Slip"));
  }

  String kindsOf(Member m) {
    StringBuilder text = new StringBuilder("(");
    for (Var v : m.params) text.append(text.length() > 1 ? "," : "").append(textOf(v.kind));
    return text.append(")").toString();
  }

  String signature(Member m) {
    return m.name + kindsOf(m);
  }

  List<Member> methodsOf(Type type) {
    if (type.methods != null) return type.methods;
    List<Member> all = new ArrayList<>(type.own('M'));
    for (Type above : type.above) {
      for (Member m : methodsOf(above)) {
        Member ahead = null;
        for (Member each : all) {
          if (signature(each).equals(signature(m))) ahead = each;
        }
        if (ahead == null) {
          all.add(m);
        } else if (!mayOverride(ahead, m)) {
          boolean isOwn = ahead.owner == type;
          fault(type.unit, isOwn ? ahead.at : type.at, 7);
        }
      }
    }
    type.methods = all;
    return all;
  }

  boolean mayOverride(Member one, Member two) {
    if (one.isStatic != two.isStatic) return false;
    if (one.kind != null && two.kind != null && one.kind != two.kind && !one.kind.equals(two.kind)) {
      if (!(one.kind instanceof Type) || !(two.kind instanceof Type) || !isSubtype((Type) one.kind, (Type) two.kind)) return false;
    }
    for (Ref ref : one.thrown) {
      if (ref.means != null && isChecked(ref.means) && !throwsOver(two, ref.means)) return false;
    }
    return true;
  }

  boolean throwsOver(Member m, Type type) {
    for (Ref ref : m.thrown) {
      if (ref.means != null && isSubtype(type, ref.means)) return true;
    }
    return false;
  }

  Set<Member> fieldsOf(Type type, String name) {
    Set<Member> all = new LinkedHashSet<>();
    for (Member m : type.own('F')) {
      if (m.name.equals(name)) all.add(m);
    }
    if (!all.isEmpty()) return all;
    for (Type above : type.above) all.addAll(fieldsOf(above, name));
    return all;
  }

  Type classAbove(Type type) {
    return type.isInterface ? known.get("Object") : type.above.get(0);
  }

  /** CONSTRUCTORS of a class; one that is told nowhere, if it has none. */
  List<Member> constructors(Type type) {
    List<Member> all = type.own('C');
    if (all.isEmpty()) {
      for (Member m : type.members) {
        if (m.sort == 'U') all.add(m);
      }
    }
    return all;
  }

  final class Links {
    void all() {
      for (int unit = 0; unit < 4; unit++) importFaults(unit);
      for (Type type : types) {
        if (named(type.pack, type.name) != type) fault(type.unit, type.at, 2);
        boolean hasConstructor = false;
        for (Member m : type.members) hasConstructor |= m.sort == 'C';
        if (type.isInterface || hasConstructor) continue;
        Member unsaid = new Member();
        unsaid.sort = 'U';
        unsaid.owner = type;
        unsaid.name = type.name;
        unsaid.at = type.at;
        unsaid.body = new ArrayList<>();
        type.members.add(unsaid);
      }
      for (Type type : types) type.above = over(type);
      Set<Type> cycles = new HashSet<>();
      for (Type type : types) {
        if (reaches(type, type, new HashSet<>())) cycles.add(type);
      }
      for (Type type : cycles) {
        fault(type.unit, type.at, 4);
        type.isCycle = true;
        type.above = type.isInterface ? List.of() : List.of(known.get("Object"));
      }
      for (Type type : types) members(type);
      for (Type type : types) twice(type);
      for (Type type : types) methodsOf(type);
      for (Type type : types) {
        boolean hasAbstract = false;
        for (Member m : methodsOf(type)) hasAbstract |= m.isAbstract;
        if (hasAbstract && !type.isInterface && !type.isAbstract) fault(type.unit, type.at, 6);
      }
    }

    void importFaults(int unit) {
      Set<String> seen = new HashSet<>();
      for (Ref[] each : imports.get(unit)) {
        if (!seen.add(each[1].word) || hasItself(unit, each[1].word)) fault(unit, each[1].at, 2);
        if (named(each[0].word, each[1].word) == null) fault(unit, each[1].at, 3);
      }
    }

    boolean reaches(Type from, Type to, Set<Type> seen) {
      for (Type above : from.above) {
        if (above == to) return true;
        if (seen.add(above) && reaches(above, to, seen)) return true;
      }
      return false;
    }

    List<Type> over(Type type) {
      List<Type> all = new ArrayList<>();
      if (!type.isInterface) {
        Type extended = known.get("Object");
        if (type.extended != null) {
          Type means = meaning(type.extended);
          if (means != null && (means.isInterface || means == known.get("Integer"))) fault(type.unit, type.extended.at, 5);
          else if (means != null) extended = means;
        }
        all.add(extended);
      }
      Set<String> seen = new HashSet<>();
      for (Ref ref : type.listed) {
        Type means = meaning(ref);
        boolean again = !seen.add(ref.word);
        if (again) fault(type.unit, ref.at, 2);
        if (means != null && !means.isInterface) fault(type.unit, ref.at, 5);
        else if (means != null && !again) all.add(means);
      }
      return all;
    }

    Type meaning(Ref ref) {
      ref.means = Reading.this.means(ref.unit, ref.word);
      if (ref.means == null) fault(ref.unit, ref.at, 3);
      return ref.means;
    }

    void members(Type type) {
      for (Member m : type.members) {
        if (m.ref != null) m.kind = meaning(m.ref);
        for (Var v : m.params) {
          if (v.ref != null) v.kind = meaning(v.ref);
        }
        Set<String> seen = new HashSet<>();
        for (Ref ref : m.thrown) {
          Type means = meaning(ref);
          if (!seen.add(ref.word)) fault(ref.unit, ref.at, 2);
          if (means != null && !isThrow(means)) fault(ref.unit, ref.at, 5);
        }
      }
    }

    void twice(Type type) {
      Set<String> seen = new HashSet<>();
      for (Member m : type.members) {
        if (m.sort == 'U') continue;
        String key = m.sort == 'F' ? m.name : m.sort == 'M' ? signature(m) : kindsOf(m);
        if (seen.add(m.sort + key)) continue;
        m.isTwice = true;
        fault(type.unit, m.at, 2);
      }
    }
  }

  // ---- section 4

  static boolean isInts(Object kind) {
    return "byte".equals(kind) || "int".equals(kind) || "long".equals(kind);
  }

  boolean isInteger(Object kind) {
    return kind == known.get("Integer");
  }

  boolean isInt(Object kind) {
    return isInts(kind) || isInteger(kind);
  }

  static String common(Object one, Object two) {
    return "long".equals(one) || "long".equals(two) ? "long" : "int";
  }

  static boolean same(Object one, Object two) {
    return one == two || one instanceof String && one.equals(two);
  }

  static boolean isWidened(Object from, Object to) {
    if ("byte".equals(from)) return "int".equals(to) || "long".equals(to);
    return "int".equals(from) && "long".equals(to);
  }

  boolean fitsStrictly(Object from, Object to) {
    if (from == null || to == null || from.equals("void")) return false;
    if (same(from, to) || isWidened(from, to)) return true;
    if (!(to instanceof Type)) return false;
    return from.equals("null") || from instanceof Type && isSubtype((Type) from, (Type) to);
  }

  boolean fitsLoosely(Object from, Object to) {
    if (fitsStrictly(from, to)) return true;
    if ("int".equals(from)) return to == known.get("Integer") || to == known.get("Object");
    return isInteger(from) && ("int".equals(to) || "long".equals(to));
  }

  boolean fitsAsValue(Expr e, Object to) {
    return fitsLoosely(e.type, to) || isSmall(e) && "byte".equals(to);
  }

  static boolean isSmall(Expr e) {
    return e.fixed instanceof Long && "int".equals(e.type) && (Long) e.fixed >= -128 && (Long) e.fixed <= 127;
  }

  boolean mayCast(Object from, Object to) {
    if (isInts(from) && isInts(to)) return true;
    if ("boolean".equals(from) && "boolean".equals(to)) return true;
    if ("int".equals(from)) return to == known.get("Integer") || to == known.get("Object");
    if (isInteger(from) && ("int".equals(to) || "long".equals(to))) return true;
    if ("null".equals(from)) return to instanceof Type;
    if (!(from instanceof Type) || !(to instanceof Type)) return false;
    Type one = (Type) from;
    Type two = (Type) to;
    if (isSubtype(one, two) || isSubtype(two, one)) return true;
    return one.isInterface && !isInteger(two) || two.isInterface && !isInteger(one);
  }

  /** What a number is as one of a KIND. */
  static long as(Object kind, long value) {
    return "byte".equals(kind) ? (byte) value : "int".equals(kind) ? (int) value : value;
  }

  static Object compute(String sign, Object one, Object two, String kind) {
    if (one instanceof Boolean) {
      boolean a = (Boolean) one;
      boolean b = (Boolean) two;
      switch (sign) {
        case "&&": return a && b;
        case "||": return a || b;
        case "==": return a == b;
        default: return a != b;
      }
    }
    long a = (Long) one;
    long b = (Long) two;
    switch (sign) {
      case "+": return as(kind, a + b);
      case "-": return as(kind, a - b);
      case "*": return as(kind, a * b);
      case "div": return as(kind, a / b);
      case "%": return as(kind, a % b);
      case "<": return a < b;
      case "<=": return a <= b;
      case "==": return a == b;
      default: return a != b;
    }
  }

  final class Check {
    Member member;
    Type type;
    int unit;
    boolean isStart;
    List<Var> vars;

    void all() {
      for (Type each : types) {
        for (Member m : each.members) {
          if (m.sort == 'F') look(m);
          else body(m);
        }
      }
    }

    void enter(Member m) {
      member = m;
      type = m.owner;
      unit = type.unit;
      isStart = false;
      vars = new ArrayList<>();
    }

    void fault(int at, int number) {
      Reading.this.fault(unit, at, number);
    }

    boolean isStaticHere() {
      return member.isStatic || isStart;
    }

    /** Looks at a FIELD, if that was not done yet. */
    void look(Member field) {
      if (field.looked != 0) return;
      field.looked = 1;
      enter(field);
      if (field.value == null) {
        if (field.isFinal) fault(field.at, 16);
      } else {
        expr(field.value);
        value(field.value, field.kind, field.at);
        if (field.isStatic && field.isFinal) field.fixed = fixedFor(field.value, field.kind);
      }
      field.looked = 2;
    }

    Object fixedFor(Expr e, Object kind) {
      if (e.fixed == null || kind == null || kind instanceof Type || !fitsAsValue(e, kind)) return null;
      return e.fixed instanceof Long ? as(kind, (Long) e.fixed) : e.fixed;
    }

    /** What is CONSTANT of a FIELD, that may have to be looked at first. */
    Object fixedOf(Member field) {
      if (field.looked == 1) return null;
      if (field.looked == 0) new Check().look(field);
      return field.fixed;
    }

    void value(Expr e, Object kind, int at) {
      if (e.type != null && kind != null && !fitsAsValue(e, kind)) fault(at, 5);
    }

    void body(Member m) {
      enter(m);
      for (Var v : m.params) add(v);
      if (m.sort == 'C' && !m.name.equals(type.name)) fault(m.at, 5);
      boolean unsaid = m.sort == 'U' || m.sort == 'C' && m.start == null;
      if (unsaid && superConstructor(type) == null) fault(m.at, 5);
      if (m.body == null) return;
      if (m.start != null) {
        isStart = true;
        args(m.start);
        isStart = false;
        if (allTyped(m.start)) {
          Type of = m.start.word.equals("this") ? type : classAbove(type);
          construct(m.start, of);
        }
      }
      block(m.body, null);
    }

    void add(Var v) {
      for (Var each : vars) {
        if (each.name.equals(v.name)) {
          fault(v.at, 2);
          break;
        }
      }
      vars.add(v);
    }

    void block(List<Stmt> all, Stmt loop) {
      int many = vars.size();
      for (Stmt s : all) statement(s, loop);
      while (vars.size() > many) vars.remove(vars.size() - 1);
    }

    void statement(Stmt s, Stmt loop) {
      switch (s.word) {
        case "local":
          if (s.local.ref != null) s.local.kind = meaning(s.local.ref);
          add(s.local);
          Var v = s.local;
          if (s.expr == null) {
            if (v.isFinal) fault(v.at, 16);
            return;
          }
          expr(s.expr);
          value(s.expr, v.kind, v.at);
          if (v.isFinal) v.fixed = fixedFor(s.expr, v.kind);
          return;
        case "{":
          block(s.block, loop);
          return;
        case "if":
          test(s);
          statement(s.one, loop);
          if (s.two != null) statement(s.two, loop);
          return;
        case "while":
          test(s);
          statement(s.one, s);
          return;
        case "do":
          statement(s.one, s);
          test(s);
          return;
        case "break":
        case "continue":
          s.loop = loop;
          if (loop == null) fault(s.at, 16);
          return;
        case "return":
          boolean isVoid = same(member.kind, "void");
          if (s.expr != null) expr(s.expr);
          if (s.expr == null ? !isVoid : isVoid) fault(s.at, 5);
          else if (s.expr != null) value(s.expr, member.kind, s.at);
          return;
        case "throw":
          Object thrown = expr(s.expr);
          boolean good = thrown == null || thrown.equals("null") || thrown instanceof Type && isThrow((Type) thrown);
          if (!good) fault(s.at, 5);
          return;
        case "tell":
          if (same(expr(s.expr), "void")) fault(s.at, 5);
          return;
        case "try":
          block(s.block, loop);
          for (Catch c : s.catches) handler(c, loop);
          if (s.last != null) block(s.last, loop);
          return;
        case "expr":
          expr(s.expr);
          if (!Set.of("set", "call", "dotcall", "supercall", "new").contains(s.expr.op)) fault(s.expr.at, 16);
          return;
        default:
      }
    }

    void handler(Catch c, Stmt loop) {
      Type means = meaning(c.ref);
      if (means != null && !isThrow(means)) fault(c.ref.at, 5);
      c.name.kind = means;
      add(c.name);
      block(c.block, loop);
      vars.remove(vars.size() - 1);
    }

    void test(Stmt s) {
      Object kind = expr(s.expr);
      if (kind != null && !kind.equals("boolean")) fault(s.at, 5);
    }

    Type meaning(Ref ref) {
      ref.means = Reading.this.means(ref.unit, ref.word);
      if (ref.means == null) fault(ref.at, 3);
      return ref.means;
    }

    void args(Expr e) {
      for (Expr arg : e.args) expr(arg);
    }

    boolean allTyped(Expr e) {
      for (Expr arg : e.args) {
        if (arg.type == null) return false;
      }
      return true;
    }

    Object expr(Expr e) {
      e.type = null;
      e.fixed = null;
      switch (e.op) {
        case "literal":
          e.type = Character.isDigit(e.word.charAt(0)) ? "int" : "boolean";
          if (e.type.equals("int")) e.fixed = Long.parseLong(e.word);
          else e.fixed = e.word.equals("true");
          break;
        case "null":
          e.type = "null";
          break;
        case "this":
          if (isStaticHere()) fault(e.at, 9);
          else e.type = type;
          break;
        case "name":
          name(e);
          break;
        case "field":
          Expr left = e.parts.get(0);
          expr(left);
          if (left.means instanceof Type) field(e, fieldsOf((Type) left.means, e.word), true, true);
          else if (left.type instanceof Type) field(e, fieldsOf((Type) left.type, e.word), false, false);
          else if (left.type != null) fault(e.at, 5);
          break;
        case "superfield":
          if (isStaticHere()) fault(e.at - 2, 9);
          else field(e, fieldsOf(classAbove(type), e.word), false, false);
          break;
        case "call":
          args(e);
          if (allTyped(e)) method(e, type, isStaticHere());
          break;
        case "dotcall":
          Expr of = e.parts.get(0);
          expr(of);
          args(e);
          if (!allTyped(e)) break;
          if (of.means instanceof Type) method(e, (Type) of.means, true);
          else if (of.type instanceof Type) method(e, (Type) of.type, false);
          else if (of.type != null) fault(e.at, 5);
          break;
        case "supercall":
          args(e);
          if (isStaticHere()) fault(e.at - 2, 9);
          else if (allTyped(e)) method(e, classAbove(type), false);
          break;
        case "new":
          args(e);
          Type made = meaning(e.ref);
          if (made == null) break;
          if (made.isInterface || made.isAbstract) fault(e.at, 6);
          else if (allTyped(e)) construct(e, made);
          break;
        case "set":
          set(e);
          break;
        case "choice":
          choice(e);
          break;
        default:
          signs(e);
      }
      return e.type;
    }

    void name(Expr e) {
      for (int k = vars.size() - 1; k >= 0; k--) {
        Var v = vars.get(k);
        if (!v.name.equals(e.word)) continue;
        e.means = v;
        e.type = v.kind;
        e.fixed = v.fixed;
        return;
      }
      Set<Member> fields = fieldsOf(type, e.word);
      if (fields.isEmpty() && e.isAhead) {
        Type meant = Reading.this.means(unit, e.word);
        if (meant != null) {
          e.means = meant;
          return;
        }
      }
      field(e, fields, isStaticHere(), true);
    }

    void field(Expr e, Set<Member> fields, boolean wantsStatic, boolean mayBeFixed) {
      if (fields.isEmpty()) {
        fault(e.at, 3);
      } else if (fields.size() > 1) {
        fault(e.at, 8);
      } else {
        Member f = fields.iterator().next();
        e.means = f;
        if (wantsStatic && !f.isStatic) {
          fault(e.at, 9);
        } else {
          e.type = f.kind;
          if (mayBeFixed && f.isStatic && f.isFinal && f.value != null) e.fixed = fixedOf(f);
        }
      }
    }

    void method(Expr e, Type of, boolean wantsStatic) {
      List<Member> all = new ArrayList<>();
      for (Member m : methodsOf(of)) {
        if (m.name.equals(e.word)) all.add(m);
      }
      if (all.isEmpty()) {
        fault(e.at, 3);
        return;
      }
      Member m = choose(e, all);
      if (m == null) return;
      e.means = m;
      if (wantsStatic && !m.isStatic) fault(e.at, 9);
      else if (e.op.equals("supercall") && m.isAbstract) fault(e.at, 6);
      else e.type = m.kind;
    }

    void construct(Expr e, Type of) {
      if (of.isKnown) {
        if (isInteger(of) || !e.args.isEmpty()) {
          fault(e.at, 5);
          return;
        }
        e.phase = 1;
        e.applies = 1;
        e.means = "known";
      } else {
        Member m = choose(e, constructors(of));
        if (m == null) return;
        e.means = m;
      }
      if (e.op.equals("new")) e.type = of;
    }

    Member choose(Expr e, List<Member> all) {
      List<Member> good = new ArrayList<>();
      for (int phase = 1; phase <= 2 && good.isEmpty(); phase++) {
        for (Member m : all) {
          boolean fits = m.params.size() == e.args.size();
          for (int k = 0; k < e.args.size() && fits; k++) {
            Object from = e.args.get(k).type;
            Object to = m.params.get(k).kind;
            fits = phase == 1 ? fitsStrictly(from, to) : fitsLoosely(from, to);
          }
          if (fits) good.add(m);
        }
        if (!good.isEmpty()) e.phase = phase;
      }
      e.applies = good.size();
      if (good.isEmpty()) {
        fault(e.at, 5);
        return null;
      }
      for (Member one : good) {
        boolean best = true;
        for (Member two : good) best &= one == two || isMoreSpecific(one, two);
        if (best) return one;
      }
      fault(e.at, 8);
      return null;
    }

    boolean isMoreSpecific(Member one, Member two) {
      for (int k = 0; k < one.params.size(); k++) {
        Object from = one.params.get(k).kind;
        Object to = two.params.get(k).kind;
        boolean under = from instanceof Type && to instanceof Type && isSubtype((Type) from, (Type) to);
        if (!same(from, to) && !isWidened(from, to) && !under) return false;
      }
      return true;
    }

    void set(Expr e) {
      Expr left = e.parts.get(0);
      Expr right = e.parts.get(1);
      expr(left);
      expr(right);
      if (left.type == null || right.type == null) return;
      boolean isVar = left.means instanceof Var;
      boolean isField = left.means instanceof Member && ((Member) left.means).sort == 'F';
      if (!isVar && !isField) {
        fault(e.at, 16);
        return;
      }
      boolean good = e.word.equals("=") ? fitsAsValue(right, left.type) : isInts(left.type) && isInt(right.type);
      boolean isFinal = isVar ? ((Var) left.means).isFinal : ((Member) left.means).isFinal;
      if (!good) fault(e.at, 5);
      if (isFinal) fault(e.at, 10);
      if (good && !isFinal) e.type = left.type;
    }

    void choice(Expr e) {
      Expr test = e.parts.get(0);
      Expr one = e.parts.get(1);
      Expr two = e.parts.get(2);
      for (Expr part : e.parts) expr(part);
      if (test.type == null || one.type == null || two.type == null) return;
      Object kind = test.type.equals("boolean") ? chosen(one, two) : null;
      if (kind == null) {
        fault(e.at, 5);
        return;
      }
      e.type = kind;
      if (test.fixed == null || one.fixed == null || two.fixed == null) return;
      Object value = (Boolean) test.fixed ? one.fixed : two.fixed;
      e.fixed = value instanceof Long ? (Object) as(kind, (Long) value) : value;
    }

    Object chosen(Expr a, Expr b) {
      Object one = a.type;
      Object two = b.type;
      if (one.equals("boolean") && two.equals("boolean")) return "boolean";
      if (isInt(one) && isInt(two) && !(isInteger(one) && isInteger(two))) {
        if (same(one, two)) return one;
        if (one.equals("byte") && isSmall(b) || two.equals("byte") && isSmall(a)) return "byte";
        return common(one, two);
      }
      if (one.equals("int")) one = known.get("Integer");
      if (two.equals("int")) two = known.get("Integer");
      boolean refs = (one instanceof Type || one.equals("null")) && (two instanceof Type || two.equals("null"));
      if (!refs) return null;
      if (one.equals("null")) return two;
      if (two.equals("null")) return one;
      if (isSubtype((Type) one, (Type) two)) return two;
      return isSubtype((Type) two, (Type) one) ? one : null;
    }

    void signs(Expr e) {
      for (Expr part : e.parts) expr(part);
      Object kind = e.castKind;
      if (e.ref != null) kind = meaning(e.ref);
      for (Expr part : e.parts) {
        if (part.type == null) return;
      }
      Expr one = e.parts.get(0);
      switch (e.op) {
        case "minus":
          if (!isInt(one.type)) {
            fault(e.at, 5);
            return;
          }
          e.type = common(one.type, "int");
          if (one.fixed != null) e.fixed = as(e.type, -(Long) one.fixed);
          return;
        case "not":
          if (!one.type.equals("boolean")) {
            fault(e.at, 5);
            return;
          }
          e.type = "boolean";
          if (one.fixed != null) e.fixed = !(Boolean) one.fixed;
          return;
        case "cast":
          if (kind == null) return;
          if (!mayCast(one.type, kind)) {
            fault(e.at, 5);
            return;
          }
          e.type = kind;
          if (one.fixed != null && !(kind instanceof Type)) e.fixed = one.fixed instanceof Long ? (Object) as(kind, (Long) one.fixed) : one.fixed;
          return;
        case "instanceof":
          if (kind == null) return;
          boolean isRef = one.type instanceof Type || one.type.equals("null");
          if (isRef && mayCast(one.type, kind)) e.type = "boolean";
          else fault(e.at, 5);
          return;
        default:
          binary(e, one, e.parts.get(1));
      }
    }

    void binary(Expr e, Expr one, Expr two) {
      boolean ints = isInt(one.type) && isInt(two.type);
      boolean booleans = one.type.equals("boolean") && two.type.equals("boolean");
      String kind = null;
      switch (e.word) {
        case "&&":
        case "||":
          if (booleans) kind = "boolean";
          break;
        case "==":
        case "!=":
          boolean bothIntegers = isInteger(one.type) && isInteger(two.type);
          boolean refs = one.type instanceof Type && (two.type instanceof Type || two.type.equals("null"))
              || two.type instanceof Type && one.type.equals("null");
          if (ints && !bothIntegers || booleans || refs && (mayCast(one.type, two.type) || mayCast(two.type, one.type))) kind = "boolean";
          break;
        case "<":
        case "<=":
          if (ints) kind = "boolean";
          break;
        default:
          if (ints) kind = common(one.type, two.type);
      }
      if (kind == null) {
        fault(e.at, 5);
        return;
      }
      e.type = kind;
      if (one.fixed == null || two.fixed == null) return;
      boolean divides = e.word.equals("div") || e.word.equals("%");
      if (divides && (Long) two.fixed == 0) return;
      e.fixed = compute(e.word, one.fixed, two.fixed, kind);
    }
  }

  /** The CONSTRUCTOR that super ( ) calls: a Member, "known", or null if none APPLIES. */
  Object superConstructor(Type type) {
    Type above = classAbove(type);
    if (above.isKnown) return "known";
    for (Member m : constructors(above)) {
      if (m.params.isEmpty()) return m;
    }
    return null;
  }

  // ---- section 5

  /** What is SET: some variables, or all. */
  static final class Known {
    final boolean all;
    final Set<Var> vars;

    Known(boolean all, Set<Var> vars) {
      this.all = all;
      this.vars = vars;
    }

    boolean has(Var v) {
      return all || vars.contains(v);
    }

    Known with(Var v) {
      if (all) return this;
      Set<Var> more = new HashSet<>(vars);
      more.add(v);
      return new Known(false, more);
    }

    static Known both(Known one, Known two) {
      if (one.all) return two;
      if (two.all) return one;
      Set<Var> less = new HashSet<>(one.vars);
      less.retainAll(two.vars);
      return new Known(false, less);
    }

    static Known either(Known one, Known two) {
      if (one.all || two.all) return ALL;
      Set<Var> more = new HashSet<>(one.vars);
      more.addAll(two.vars);
      return new Known(false, more);
    }
  }

  static final Known ALL = new Known(true, Set.of());

  /** Something that is RAISED at a place. */
  static final class Raise {
    final Type type;
    final int at;

    Raise(Type type, int at) {
      this.type = type;
      this.at = at;
    }
  }

  final Map<Member, List<Raise>> raises = new HashMap<>();

  final class Ways {
    int unit;
    Member member;
    Known set;
    Known whenTrue;
    Known whenFalse;
    List<Var> vars;
    Map<Stmt, Known> breaks;
    Map<Stmt, Known> continues;
    boolean told;

    void all() {
      for (Type type : types) {
        unit = type.unit;
        for (Member m : type.members) {
          m.isClean = m.from >= 0 && isClean(m.from, m.to);
        }
      }
      for (Type type : types) {
        unit = type.unit;
        for (Member m : type.members) {
          member = m;
          if (m.isClean && m.sort != 'F') body(m);
          if (m.isClean || m.sort == 'U') raised(m);
        }
      }
    }

    boolean isClean(int from, int to) {
      for (int each : faults.get(unit)) {
        int number = each % 32;
        if (each / 32 >= from && each / 32 <= to && (number < 11 || number > 15)) return false;
      }
      return true;
    }

    void fault(int at, int number) {
      Reading.this.fault(unit, at, number);
    }

    // ---- UNREACHED and RETURN

    static final int GOES = 1;
    static final int BREAKS = 2;
    static final int CONTINUES = 4;

    void body(Member m) {
      int ends = blockEnds(m.body);
      reachBlock(m.body, true, true);
      if (m.sort == 'M' && !same(m.kind, "void") && (ends & GOES) != 0) fault(m.to, 13);
      vars = new ArrayList<>(m.params);
      set = new Known(false, new HashSet<>(m.params));
      breaks = new HashMap<>();
      continues = new HashMap<>();
      if (m.start != null) {
        for (Expr arg : m.start.args) value(arg);
      }
      setBlock(m.body);
    }

    boolean isFixed(Expr e, boolean value) {
      return e.fixed instanceof Boolean && (Boolean) e.fixed == value;
    }

    int blockEnds(List<Stmt> block) {
      int ends = GOES;
      for (Stmt s : block) {
        int own = ends(s);
        if ((ends & GOES) != 0) ends = ends & ~GOES | own;
      }
      return ends;
    }

    /** How a STATEMENT may end, if it is REACHED. */
    int ends(Stmt s) {
      int ends = GOES;
      switch (s.word) {
        case "{":
          ends = blockEnds(s.block);
          break;
        case "if":
          ends = ends(s.one) | (s.two == null ? GOES : ends(s.two));
          break;
        case "while":
          int inner = isFixed(s.expr, false) ? ends(s.one) & 0 : ends(s.one);
          ends = !isFixed(s.expr, true) || (inner & BREAKS) != 0 ? GOES : 0;
          break;
        case "do":
          int one = ends(s.one);
          boolean toTest = (one & (GOES | CONTINUES)) != 0;
          ends = toTest && !isFixed(s.expr, true) || (one & BREAKS) != 0 ? GOES : 0;
          break;
        case "break":
          ends = BREAKS;
          break;
        case "continue":
          ends = CONTINUES;
          break;
        case "return":
        case "throw":
          ends = 0;
          break;
        case "try":
          ends = blockEnds(s.block);
          for (Catch c : s.catches) ends |= blockEnds(c.block);
          if (s.last != null) {
            int last = blockEnds(s.last);
            ends = (last & GOES) == 0 ? last : ends | last & ~GOES;
          }
          break;
        default:
      }
      s.completes = (ends & GOES) != 0;
      return ends;
    }

    void reachBlock(List<Stmt> block, boolean isReached, boolean tells) {
      boolean reached = isReached;
      boolean telling = tells;
      for (Stmt s : block) {
        if (!reached && isReached && telling) {
          unreached(s);
          telling = false;
        }
        reach(s, reached, telling && reached);
        reached = reached && s.completes;
      }
    }

    void unreached(Stmt s) {
      if (!s.word.equals("{")) fault(s.at, 12);
      else if (!s.block.isEmpty()) unreached(s.block.get(0));
    }

    void reach(Stmt s, boolean reached, boolean tells) {
      s.isReached = reached;
      if (s.word.equals("{")) reachBlock(s.block, reached, tells);
      if (s.word.equals("if") || s.word.equals("do")) reach(s.one, reached, tells);
      if (s.word.equals("if") && s.two != null) reach(s.two, reached, tells);
      if (s.word.equals("while")) {
        boolean never = isFixed(s.expr, false);
        if (never && reached && tells) unreached(s.one);
        reach(s.one, reached && !never, tells && !never);
      }
      if (!s.word.equals("try")) return;
      reachBlock(s.block, reached, tells);
      for (Catch c : s.catches) reachBlock(c.block, reached, tells);
      if (s.last != null) reachBlock(s.last, reached, tells);
    }

    // ---- UNSET

    void setBlock(List<Stmt> block) {
      int many = vars.size();
      for (Stmt s : block) setIn(s);
      while (vars.size() > many) vars.remove(vars.size() - 1);
    }

    void note(Stmt s) {
      for (Var v : vars) s.set.put(v.name, set.has(v));
    }

    void setIn(Stmt s) {
      note(s);
      switch (s.word) {
        case "local":
          vars.add(s.local);
          if (s.expr == null) return;
          value(s.expr);
          set = set.with(s.local);
          return;
        case "{":
          setBlock(s.block);
          return;
        case "if":
          test(s.expr);
          Known otherwise = whenFalse;
          set = whenTrue;
          setIn(s.one);
          Known behind = set;
          set = otherwise;
          if (s.two != null) setIn(s.two);
          set = Known.both(behind, set);
          return;
        case "while":
          breaks.put(s, ALL);
          test(s.expr);
          Known out = whenFalse;
          set = whenTrue;
          setIn(s.one);
          set = Known.both(out, breaks.get(s));
          return;
        case "do":
          breaks.put(s, ALL);
          continues.put(s, ALL);
          setIn(s.one);
          set = Known.both(set, continues.get(s));
          test(s.expr);
          set = Known.both(whenFalse, breaks.get(s));
          return;
        case "break":
          breaks.merge(s.loop, set, Known::both);
          set = ALL;
          return;
        case "continue":
          continues.merge(s.loop, set, Known::both);
          set = ALL;
          return;
        case "return":
        case "throw":
          if (s.expr != null) value(s.expr);
          set = ALL;
          return;
        case "try":
          setInTry(s);
          return;
        default:
          if (s.expr != null) value(s.expr);
      }
    }

    void setInTry(Stmt s) {
      Known ahead = set;
      setBlock(s.block);
      Known behind = set;
      for (Catch c : s.catches) {
        set = ahead.with(c.name);
        vars.add(c.name);
        setBlock(c.block);
        vars.remove(vars.size() - 1);
        behind = Known.both(behind, set);
      }
      set = behind;
      if (s.last == null) return;
      set = ahead;
      setBlock(s.last);
      set = Known.either(behind, set);
    }

    /** Goes through an EXPR that is asked for its value; set is what is behind it then. */
    void value(Expr e) {
      test(e);
      set = Known.both(whenTrue, whenFalse);
    }

    /** Goes through an EXPR; whenTrue and whenFalse are what is behind it then. */
    void test(Expr e) {
      switch (e.op) {
        case "not":
          test(e.parts.get(0));
          Known swapped = whenTrue;
          whenTrue = whenFalse;
          whenFalse = swapped;
          break;
        case "binary":
          if (e.word.equals("&&") || e.word.equals("||")) {
            logic(e);
          } else {
            value(e.parts.get(0));
            value(e.parts.get(1));
            alike();
          }
          break;
        case "choice":
          testChoice(e);
          break;
        case "set":
          assign(e);
          alike();
          break;
        case "name":
          if (e.means instanceof Var && !set.has((Var) e.means)) fault(e.at, 11);
          alike();
          break;
        default:
          for (Expr part : e.parts) value(part);
          for (Expr arg : e.args) value(arg);
          alike();
      }
      if (isFixed(e, true)) whenFalse = ALL;
      if (isFixed(e, false)) whenTrue = ALL;
    }

    void alike() {
      whenTrue = set;
      whenFalse = set;
    }

    void logic(Expr e) {
      test(e.parts.get(0));
      boolean isAnd = e.word.equals("&&");
      Known skipped = isAnd ? whenFalse : whenTrue;
      set = isAnd ? whenTrue : whenFalse;
      test(e.parts.get(1));
      if (isAnd) whenFalse = Known.both(skipped, whenFalse);
      else whenTrue = Known.both(skipped, whenTrue);
    }

    void testChoice(Expr e) {
      test(e.parts.get(0));
      Known otherwise = whenFalse;
      set = whenTrue;
      test(e.parts.get(1));
      Known oneTrue = whenTrue;
      Known oneFalse = whenFalse;
      set = otherwise;
      test(e.parts.get(2));
      if (same(e.type, "boolean")) {
        whenTrue = Known.both(oneTrue, whenTrue);
        whenFalse = Known.both(oneFalse, whenFalse);
      } else {
        set = Known.both(Known.both(oneTrue, oneFalse), Known.both(whenTrue, whenFalse));
        alike();
      }
    }

    void assign(Expr e) {
      Expr left = e.parts.get(0);
      Var v = left.means instanceof Var ? (Var) left.means : null;
      if (v == null) value(left);
      else if (e.word.equals("+=") && !set.has(v)) fault(left.at, 11);
      value(e.parts.get(1));
      if (v != null) set = set.with(v);
    }

    // ---- RAISED

    void raised(Member m) {
      List<Raise> out = new ArrayList<>();
      boolean unsaid = m.sort == 'U' || m.sort == 'C' && m.start == null;
      Object above = unsaid ? superConstructor(m.owner) : null;
      if (above instanceof Member) raiseAll((Member) above, m.at, out);
      if (m.start != null) raiseIn(m.start, out);
      if (m.value != null) raiseIn(m.value, out);
      if (m.body != null) raiseBlock(m.body, out);
      raises.put(m, out);
      for (Raise r : out) {
        if (isChecked(r.type) && !throwsOver(m, r.type)) fault(r.at, 14);
      }
    }

    void raiseAll(Member m, int at, List<Raise> out) {
      for (Ref ref : m.thrown) {
        if (ref.means != null) out.add(new Raise(ref.means, at));
      }
    }

    void raiseIn(Expr e, List<Raise> out) {
      for (Expr part : e.parts) raiseIn(part, out);
      boolean calls = Set.of("call", "dotcall", "supercall", "new", "start").contains(e.op);
      if (calls && e.means instanceof Member) raiseAll((Member) e.means, e.at, out);
      for (Expr arg : e.args) raiseIn(arg, out);
    }

    void raiseBlock(List<Stmt> block, List<Raise> out) {
      for (Stmt s : block) raiseStatement(s, out);
    }

    void raiseStatement(Stmt s, List<Raise> out) {
      if (s.word.equals("try")) {
        raiseTry(s, out);
        return;
      }
      if (s.expr != null) raiseIn(s.expr, out);
      if (s.word.equals("throw") && s.expr.type instanceof Type) out.add(new Raise((Type) s.expr.type, s.at));
      if (s.block != null) raiseBlock(s.block, out);
      if (s.one != null) raiseStatement(s.one, out);
      if (s.two != null) raiseStatement(s.two, out);
    }

    void raiseTry(Stmt s, List<Raise> out) {
      List<Raise> inner = new ArrayList<>();
      raiseBlock(s.block, inner);
      List<Type> ahead = new ArrayList<>();
      for (Catch c : s.catches) {
        Type t = c.ref.means;
        if (t == null) continue;
        boolean never = false;
        for (Type each : ahead) never |= isSubtype(t, each);
        if (isChecked(t) && t != known.get("Throw")) {
          boolean hit = false;
          for (Raise r : inner) hit |= isSubtype(r.type, t) || isSubtype(t, r.type);
          never |= !hit;
        }
        if (never) fault(c.ref.at, 15);
        ahead.add(t);
      }
      List<Raise> gone = new ArrayList<>();
      for (Raise r : inner) {
        boolean caught = false;
        for (Type each : ahead) caught |= isSubtype(r.type, each);
        if (!caught) gone.add(r);
      }
      for (Catch c : s.catches) raiseBlock(c.block, gone);
      boolean isLost = s.last != null && (blockEnds(s.last) & GOES) == 0;
      if (!isLost) out.addAll(gone);
      if (s.last != null) raiseBlock(s.last, out);
    }
  }

  // ---- what is asked

  String faults(int unit) {
    StringBuilder text = new StringBuilder();
    for (int each : faults.get(unit)) text.append(text.length() > 0 ? " " : "").append(each % 32).append('@').append(each / 32);
    return text.toString();
  }

  boolean isWell() {
    for (int unit = 0; unit < 4; unit++) {
      if (!faults.get(unit).isEmpty()) return false;
    }
    return true;
  }

  List<Type> typesOf(int unit) {
    List<Type> all = new ArrayList<>();
    for (Type type : types) {
      if (type.unit == unit) all.add(type);
    }
    return all;
  }

  static String join(List<String> all) {
    return String.join(" ", all);
  }

  String fulls(List<Type> all) {
    List<String> texts = new ArrayList<>();
    for (Type type : all) texts.add(type.full());
    return join(texts);
  }

  String imports(int unit) {
    List<String> texts = new ArrayList<>();
    for (Ref[] each : imports.get(unit)) texts.add(each[0].word + "." + each[1].word);
    return join(texts);
  }

  Member mainOf(int unit) {
    for (Type type : typesOf(unit)) {
      for (Member m : type.own('M')) {
        if (m.isStatic && m.name.equals("M") && kindsOf(m).equals("(int,int)")) return m;
      }
    }
    return null;
  }

  String methods(Type type) {
    List<String> texts = new ArrayList<>();
    for (Member m : methodsOf(type)) texts.add((m.isAbstract ? "abstract " : m.isStatic ? "static " : "") + signature(m));
    return join(texts);
  }

  int ofType(Type type, int what) {
    int many = 0;
    for (Member m : methodsOf(type)) many += m.isAbstract ? 1 : 0;
    switch (what) {
      case 0: return type.at;
      case 1: return type.isInterface ? 1 : 0;
      case 2: return type.isAbstract ? 1 : 0;
      case 3: return methodsOf(type).size();
      case 4: return many;
      case 5: return type.own('C').size();
      case 6: return type.own('F').size();
      default: return type.own('M').size();
    }
  }

  String field(Type type, String name) {
    Set<Member> all = fieldsOf(type, name);
    if (all.isEmpty()) return "-";
    if (all.size() > 1) return "!";
    Member f = all.iterator().next();
    return f.owner.full() + "." + name + ":" + textOf(f.kind);
  }

  String own(Type type) {
    List<String> texts = new ArrayList<>();
    for (Member f : type.own('F')) texts.add(f.name + ":" + textOf(f.kind));
    return join(texts);
  }

  String constructorsOf(Type type) {
    List<String> texts = new ArrayList<>();
    for (Member m : type.own('C')) texts.add(kindsOf(m));
    return join(texts);
  }

  String subtypes(Type type) {
    List<Type> all = new ArrayList<>();
    for (Type each : types) {
      if (each != type && isSubtype(each, type)) all.add(each);
    }
    return fulls(all);
  }

  Member memberAt(int unit, int place) {
    for (Type type : typesOf(unit)) {
      for (Member m : type.members) {
        if (m.at == place && m.sort != 'U') return m;
      }
    }
    return null;
  }

  int overridden(int unit, int place) {
    Member m = memberAt(unit, place);
    if (m == null || m.sort != 'M' || m.isTwice) return -1;
    int many = 0;
    for (Type above : m.owner.above) {
      for (Member each : methodsOf(above)) many += signature(each).equals(signature(m)) ? 1 : 0;
    }
    return many;
  }

  boolean hasFault(int unit, int place) {
    for (int each : faults.get(unit)) {
      if (each / 32 == place) return true;
    }
    return false;
  }

  String meant(int unit, int place) {
    Expr e = exprs.get(unit).get(place);
    if (e == null || e.means == null || e.op.equals("start") || hasFault(unit, place)) return "-";
    if (e.means instanceof Var) return "local " + ((Var) e.means).at;
    if (e.means instanceof Type) return "type " + ((Type) e.means).full();
    if (e.op.equals("new")) return "new " + ((Type) e.ref.means).full() + (e.means instanceof Member ? kindsOf((Member) e.means) : "()");
    Member m = (Member) e.means;
    if (m.sort == 'F') return "field " + m.owner.full() + "." + m.name;
    return "method " + m.owner.full() + "." + signature(m);
  }

  String kind(int unit, int place) {
    Expr e = exprs.get(unit).get(place);
    return e == null || e.type == null ? "-" : textOf(e.type);
  }

  String value(int unit, int place) {
    Expr e = exprs.get(unit).get(place);
    return e == null || e.fixed == null ? "-" : e.fixed.toString();
  }

  int phase(int unit, int place) {
    Expr e = exprs.get(unit).get(place);
    return e == null ? 0 : e.phase;
  }

  int applies(int unit, int place) {
    Expr e = exprs.get(unit).get(place);
    return e == null ? 0 : e.applies;
  }

  private boolean isInCleanBody(int unit, int place) {
    for (Type type : typesOf(unit)) {
      for (Member m : type.members) {
        if (m.sort != 'F' && m.isClean && m.from <= place && place <= m.to) return true;
      }
    }
    return false;
  }

  int reached(int unit, int place) {
    Stmt s = stmts.get(unit).get(place);
    if (s == null || !isInCleanBody(unit, place)) return -1;
    return (s.isReached ? 1 : 0) + (s.completes ? 2 : 0);
  }

  int isSet(int unit, int place, String name) {
    Stmt s = stmts.get(unit).get(place);
    if (s == null || !isInCleanBody(unit, place) || !s.set.containsKey(name)) return -1;
    return s.set.get(name) ? 1 : 0;
  }

  String raised(int unit, int place) {
    Member m = memberAt(unit, place);
    if (m == null || m.sort == 'F' || !m.isClean) return "-";
    List<Raise> all = new ArrayList<>(raises.get(m));
    all.sort((one, two) -> Integer.compare(one.at, two.at));
    Set<String> texts = new LinkedHashSet<>();
    for (Raise r : all) {
      if (isChecked(r.type)) texts.add(r.type.full());
    }
    return join(new ArrayList<>(texts));
  }

  // ---- section 6

  static final class Obj {
    final Type type;
    final Map<Member, Object> fields = new HashMap<>();
    boolean wasThrown;

    Obj(Type type) {
      this.type = type;
    }
  }

  /** An Integer. */
  static final class Box {
    final long value;

    Box(long value) {
      this.value = value;
    }
  }

  static final class Leaves extends RuntimeException {
    private static final long serialVersionUID = 1;
    final String why;
    final transient Object what;

    Leaves(String why, Object what) {
      super(null, null, false, false);
      this.why = why;
      this.what = what;
    }
  }

  final class Run {
    final List<String> told = new ArrayList<>();
    final Map<Member, Object> statics = new HashMap<>();
    int end = -1;
    String result = "-";
    int steps;
    int calls;
    int under;
    int most;
    int made;
    int thrown;
    Obj self;
    Map<Var, Object> locals;
    Object returning;

    Run(Member main, int x, int y) {
      try {
        for (Type type : types) {
          for (Member f : type.own('F')) {
            if (f.isStatic) statics.put(f, f.fixed != null ? f.fixed : zero(f.kind));
          }
        }
        locals = new HashMap<>();
        for (Type type : types) {
          for (Member f : type.own('F')) {
            if (f.isStatic && f.value != null && f.fixed == null) statics.put(f, fit(value(f.value), f.value.type, f.kind));
          }
        }
        List<Object> args = List.of((long) x, (long) y);
        Object answer = call(main, null, args);
        end = 1;
        result = same(main.kind, "void") ? "void" : text(answer);
      } catch (Leaves e) {
        end = e.why.equals("stop") ? 2 : 0;
        result = e.why.equals("stop") ? (String) e.what : ((Obj) e.what).type.full();
      }
    }

    Object zero(Object kind) {
      return isInts(kind) ? (Object) 0L : same(kind, "boolean") ? (Object) false : null;
    }

    String text(Object value) {
      if (value instanceof Box) return "" + ((Box) value).value;
      return value instanceof Obj ? ((Obj) value).type.full() : "" + value;
    }

    Leaves raise(Obj object) {
      if (!object.wasThrown) thrown++;
      object.wasThrown = true;
      return new Leaves("throw", object);
    }

    Leaves raiseKnown(String name) {
      made++;
      return raise(new Obj(known.get(name)));
    }

    void step() {
      if (steps == 2000) throw new Leaves("stop", "LONG");
      steps++;
    }

    Object fit(Object value, Object from, Object to) {
      if ("int".equals(from) && to instanceof Type) return new Box((Long) value);
      if (isInteger(from) && to instanceof String) {
        if (value == null) throw raiseKnown("Null");
        return ((Box) value).value;
      }
      return "byte".equals(to) ? (Object) as("byte", (Long) value) : value;
    }

    Object call(Member m, Obj object, List<Object> args) {
      if (steps == 2000) throw new Leaves("stop", "LONG");
      if (under == 24) throw new Leaves("stop", "DEEP");
      steps++;
      calls++;
      under++;
      most = Math.max(most, under);
      Obj selfBefore = self;
      Map<Var, Object> localsBefore = locals;
      Object returningBefore = returning;
      self = object;
      returning = m.kind;
      locals = new HashMap<>();
      for (int k = 0; k < args.size(); k++) locals.put(m.params.get(k), args.get(k));
      try {
        if (m.sort != 'M') prepare(m);
        block(m.body);
        return null;
      } catch (Leaves e) {
        if (!e.why.equals("return")) throw e;
        return e.what;
      } finally {
        under--;
        self = selfBefore;
        locals = localsBefore;
        returning = returningBefore;
      }
    }

    void prepare(Member m) {
      Obj object = self;
      Type type = m.owner;
      boolean isThis = m.start != null && m.start.word.equals("this");
      if (m.start == null) {
        Object above = superConstructor(type);
        if (above instanceof Member) call((Member) above, object, List.of());
      } else if (m.start.means instanceof Member) {
        Member next = (Member) m.start.means;
        call(next, object, args(m.start, next));
      }
      if (isThis) return;
      for (Member f : type.own('F')) {
        if (!f.isStatic && f.value != null) object.fields.put(f, fit(value(f.value), f.value.type, f.kind));
      }
    }

    List<Object> args(Expr e, Member m) {
      List<Object> all = new ArrayList<>();
      for (int k = 0; k < e.args.size(); k++) {
        Expr arg = e.args.get(k);
        all.add(fit(value(arg), arg.type, m.params.get(k).kind));
      }
      return all;
    }

    void block(List<Stmt> all) {
      for (Stmt s : all) statement(s);
    }

    void statement(Stmt s) {
      if (!s.word.equals("{")) step();
      switch (s.word) {
        case "local":
          if (s.expr != null) locals.put(s.local, fit(value(s.expr), s.expr.type, s.local.kind));
          return;
        case "{":
          block(s.block);
          return;
        case "if":
          if ((Boolean) value(s.expr)) statement(s.one);
          else if (s.two != null) statement(s.two);
          return;
        case "while":
        case "do":
          loop(s);
          return;
        case "break":
        case "continue":
          throw new Leaves(s.word, s.loop);
        case "return":
          throw new Leaves("return", s.expr == null ? null : returned(s.expr));
        case "throw":
          Object object = value(s.expr);
          if (object == null) throw raiseKnown("Null");
          throw raise((Obj) object);
        case "tell":
          Object value = value(s.expr);
          if (told.size() == 60) throw new Leaves("stop", "FULL");
          told.add(text(value));
          return;
        case "try":
          attempt(s);
          return;
        case "expr":
          value(s.expr);
          return;
        default:
      }
    }

    Object returned(Expr e) {
      return fit(value(e), e.type, returning);
    }

    void loop(Stmt s) {
      boolean tests = s.word.equals("while");
      while (true) {
        if (tests) {
          step();
          if (!(Boolean) value(s.expr)) return;
        }
        tests = true;
        try {
          statement(s.one);
        } catch (Leaves e) {
          if (e.what != s || !e.why.equals("break") && !e.why.equals("continue")) throw e;
          if (e.why.equals("break")) return;
        }
      }
    }

    void attempt(Stmt s) {
      Leaves left = null;
      try {
        handled(s);
      } catch (Leaves e) {
        if (e.why.equals("stop")) throw e;
        left = e;
      }
      if (s.last != null) block(s.last);
      if (left != null) throw left;
    }

    void handled(Stmt s) {
      try {
        block(s.block);
      } catch (Leaves e) {
        if (!e.why.equals("throw")) throw e;
        for (Catch c : s.catches) {
          if (!isSubtype(((Obj) e.what).type, c.ref.means)) continue;
          locals.put(c.name, e.what);
          block(c.block);
          return;
        }
        throw e;
      }
    }

    Object value(Expr e) {
      switch (e.op) {
        case "literal": return e.fixed;
        case "null": return null;
        case "this": return self;
        case "name": return e.means instanceof Var ? local((Var) e.means) : ofField((Member) e.means, self);
        case "superfield": return ofField((Member) e.means, self);
        case "field":
          Member f = (Member) e.means;
          return ofField(f, e.parts.get(0).means instanceof Type ? null : receiver(e));
        case "set": return assign(e);
        case "choice":
          Expr part = (Boolean) value(e.parts.get(0)) ? e.parts.get(1) : e.parts.get(2);
          return fit(value(part), part.type, e.type);
        case "minus": return as(e.type, -(Long) fit(value(e.parts.get(0)), e.parts.get(0).type, "long"));
        case "not": return !(Boolean) value(e.parts.get(0));
        case "cast": return cast(e);
        case "instanceof":
          Object tested = value(e.parts.get(0));
          return tested != null && isSubtype(classOf(tested), e.ref.means);
        case "binary": return binary(e);
        case "new": return make(e);
        default: return invoke(e);
      }
    }

    Object local(Var v) {
      if (!locals.containsKey(v)) throw new IllegalStateException("a local without a value");
      return locals.get(v);
    }

    Object ofField(Member f, Obj object) {
      if (f.isStatic) return statics.get(f);
      return object.fields.get(f);
    }

    Obj receiver(Expr e) {
      Object object = value(e.parts.get(0));
      if (object == null) throw raiseKnown("Null");
      return object instanceof Obj ? (Obj) object : null;
    }

    Type classOf(Object object) {
      return object instanceof Box ? known.get("Integer") : ((Obj) object).type;
    }

    Object assign(Expr e) {
      Expr left = e.parts.get(0);
      Expr right = e.parts.get(1);
      Obj object = self;
      boolean hasReceiver = left.op.equals("field") && !(left.parts.get(0).means instanceof Type);
      if (hasReceiver) object = receiver(left);
      Var v = left.means instanceof Var ? (Var) left.means : null;
      Member f = v == null ? (Member) left.means : null;
      Object value;
      if (e.word.equals("+=")) {
        long before = (Long) (v != null ? local(v) : ofField(f, object));
        long more = (Long) fit(value(right), right.type, "long");
        value = as(left.type, before + more);
      } else {
        value = fit(value(right), right.type, left.type);
      }
      if (v != null) locals.put(v, value);
      else if (f.isStatic) statics.put(f, value);
      else object.fields.put(f, value);
      return value;
    }

    Object cast(Expr e) {
      Expr part = e.parts.get(0);
      Object value = value(part);
      if (e.type instanceof Type) {
        if ("int".equals(part.type)) return new Box((Long) value);
        if (value != null && !isSubtype(classOf(value), (Type) e.type)) throw raiseKnown("Cast");
        return value;
      }
      value = fit(value, part.type, "boolean".equals(e.type) ? "boolean" : "long");
      return value instanceof Long ? (Object) as(e.type, (Long) value) : value;
    }

    Object binary(Expr e) {
      Expr one = e.parts.get(0);
      Expr two = e.parts.get(1);
      if (e.word.equals("&&")) return (Boolean) value(one) && (Boolean) value(two);
      if (e.word.equals("||")) return (Boolean) value(one) || (Boolean) value(two);
      Object a = value(one);
      Object b = value(two);
      boolean asks = e.word.equals("==") || e.word.equals("!=");
      boolean refs = !(one.type instanceof String && !one.type.equals("null")) && !(two.type instanceof String && !two.type.equals("null"));
      if (asks && refs) {
        boolean alike = a instanceof Box && b instanceof Box ? ((Box) a).value == ((Box) b).value : a == b;
        return alike == e.word.equals("==");
      }
      if (!(a instanceof Boolean)) {
        a = fit(a, one.type, "long");
        b = fit(b, two.type, "long");
      }
      boolean divides = e.word.equals("div") || e.word.equals("%");
      if (divides && (Long) b == 0) throw raiseKnown("Divide");
      return compute(e.word, a, b, asks ? "boolean" : (String) e.type);
    }

    Object make(Expr e) {
      Type type = e.ref.means;
      made++;
      Obj object = new Obj(type);
      for (Type each = type; !each.isKnown; each = classAbove(each)) {
        for (Member f : each.own('F')) {
          if (!f.isStatic) object.fields.put(f, zero(f.kind));
        }
      }
      if (e.means instanceof Member) {
        Member m = (Member) e.means;
        call(m, object, args(e, m));
      }
      return object;
    }

    Object invoke(Expr e) {
      Member m = (Member) e.means;
      Obj object = self;
      boolean hasReceiver = e.op.equals("dotcall") && !(e.parts.get(0).means instanceof Type);
      if (hasReceiver) object = receiver(e);
      List<Object> args = args(e, m);
      if (!m.isStatic && !e.op.equals("supercall")) {
        for (Member each : methodsOf(object.type)) {
          if (signature(each).equals(signature(m))) m = each;
        }
      }
      return call(m, m.isStatic ? null : object, args);
    }
  }
}
