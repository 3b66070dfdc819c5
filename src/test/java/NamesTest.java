/** What names, calls and EXPRS are (promises 27 to 31). */
public final class NamesTest {
  private static Sourcedoor door;
  private static String text;

  public static void main(String[] args) {
    meant();
    kinds();
    choices();
    values();
    constants();
    binding();
    phases();
    wrong();
    Door.end();
  }

  private static void world(String... units) {
    door = Door.world(units);
    text = units[0];
  }

  private static int at(String word, int n) {
    return Door.place(text, word, n);
  }

  private static void meant(String word, int n, String want) {
    Door.due("meant " + word + " " + n + " of " + text, door.meant(0, at(word, n)), want);
  }

  private static void kind(String word, int n, String want) {
    Door.due("kind " + word + " " + n + " of " + text, door.kind(0, at(word, n)), want);
  }

  private static void value(String word, int n, String want) {
    Door.due("value " + word + " " + n + " of " + text, door.value(0, at(word, n)), want);
  }

  private static void phase(String word, int n, int phase, int applies) {
    Door.due("phase " + word + " " + n + " of " + text, door.phase(0, at(word, n)), phase);
    Door.due("applies " + word + " " + n + " of " + text, door.applies(0, at(word, n)), applies);
  }

  private static void meant() {
    world("package p ; class a { int k ; static z n ; void f ( int x , a y ) { int w = x ; w = k ; y . k = n ; y . f ( 1 , null ) ; a . n = b . n ; "
        + "try { } catch ( Slip v ) { tell v ; } new a ( ) ; new b ( 1 , y ) ; new Throw ( ) ; tell q ; f ( q , y ) "
            + "; tell super . f ( ) ; f ( ) ; } } "
        + "class b extends a { b ( Object x , a y ) { super ( ) ; } }");
    meant("x", 1, "local " + at("x", 0));
    meant("w", 0, "-");
    meant("w", 1, "local " + at("w", 0));
    meant("k", 0, "-");
    meant("k", 1, "field p.a.k");
    meant("k", 2, "field p.a.k");
    meant("y", 1, "local " + at("y", 0));
    meant("n", 1, "field p.a.n");
    meant("f", 0, "-");
    meant("f", 1, "method p.a.f(int,p.a)");
    meant("a", 2, "type p.a");
    meant("b", 0, "type p.b");
    meant("n", 3, "field p.a.n");
    meant("v", 0, "-");
    meant("v", 1, "local " + at("v", 0));
    meant("new", 0, "new p.a()");
    meant("new", 1, "new p.b(Object,p.a)");
    meant("new", 2, "new Throw()");
    meant("b", 1, "-");
    meant("q", 0, "-");
    meant("f", 2, "-");
    meant("f", 3, "-");
    meant("f", 4, "-");
    meant("super", 1, "-");
    meant("=", 0, "-");
    world("class a { int k ; a b ; int f ( a x ) { return b . b . k + ( x ) . k + this . k ; } static int g ( ) { "
        + "int w ; return w + k + a . k ; } }");
    meant("b", 1, "field a.b");
    meant("b", 2, "field a.b");
    meant("k", 1, "field a.k");
    meant("w", 1, "local " + at("w", 0));
    meant("k", 4, "-");
    meant("a", 3, "type a");
    meant("k", 5, "-");
    world("class a { int f ( ) { int w ; return w ; } }");
    meant("w", 1, "-");
    kind("w", 1, "int");
    // A field whose kind means nothing has a meaning, but no type.
    world("class a { z k ; z f ( ) { return k ; } void g ( ) { f ( ) ; } }");
    meant("k", 1, "field a.k");
    kind("k", 1, "-");
    meant("f", 1, "method a.f()");
    kind("f", 1, "-");
    phase("f", 1, 1, 1);
  }

  private static void kinds() {
    world("package p ; class a { byte b ; long l ; Integer i ; void f ( int x , Object y ) { tell - b ; tell b + l ; "
        + "tell i + 1 ; tell x < 2 ; tell ( byte ) 1 ; tell y == null ; "
        + "tell true ? 1 : null ; tell y instanceof a ; f ( 1 , this ) ; b = 1 ; l += 1 ; new a ( ) ; tell ! false ; "
            + "tell ( ( x ) ) ; tell a . b ; a . z ( ) ; 5 ; tell x * y ; } }");
    kind("-", 0, "int");
    kind("b", 1, "byte");
    kind("+", 0, "long");
    kind("l", 1, "long");
    kind("+", 1, "int");
    kind("i", 1, "Integer");
    kind("1", 0, "int");
    kind("<", 0, "boolean");
    kind("(", 1, "byte");
    kind("==", 0, "boolean");
    kind("null", 0, "null");
    kind("?", 0, "Integer");
    kind(":", 0, "-");
    kind("instanceof", 0, "boolean");
    kind("f", 0, "-");
    kind("f", 1, "void");
    kind("this", 0, "p.a");
    kind("=", 0, "byte");
    kind("+=", 0, "long");
    kind("new", 0, "p.a");
    kind("!", 0, "boolean");
    kind("x", 2, "int");
    kind("a", 4, "-");
    kind("b", 4, "-");
    kind("z", 0, "-");
    kind("5", 0, "int");
    kind("*", 0, "-");
    kind("tell", 0, "-");
    kind("(", 4, "-");
    kind("(", 5, "-");
    kind("(", 6, "-");
  }

  /** Of ? : with two INTS of which one is no Integer, with others, and with a CONSTANT int that fits a byte. */
  private static void choices() {
    String[] all = {
      "1 : 2", "int", "1 : i", "int", "i : 1", "int", "b : i", "int", "i : b", "int", "l : i", "long", "i : l", "long", "i : i", "Integer", "b : b", "byte",
      "b : 127", "byte", "- 128 : b", "byte", "b : 128", "int", "- 129 : b", "int", "b : x", "int", "b : l", "long", "1 : l", "long", "l : l", "long",
      "1 : null", "Integer", "null : 1", "Integer", "i : null", "Integer", "null : i", "Integer", "null : null", "null", "o : 1", "Object", "1 : o", "Object",
      "o : i", "Object", "i : o", "Object", "this : null", "a", "null : this", "a", "this : o", "Object", "o : this", "Object", "t : u", "Throw", "u : t", "Throw",
      "true : false", "boolean", "b : null", "-", "null : b", "-", "l : null", "-", "null : l", "-", "null : true", "-", "true : null", "-", "1 : true", "-",
      "o : b", "-", "l : o", "-", "this : t", "-", "t : i", "-", "1 : u", "-", "f ( ) : f ( )", "-", "null : f ( )", "-", "f ( ) : 1", "-",
    };
    for (int k = 0; k < all.length; k += 2) {
      world("class a { void f ( ) { } void g ( byte b , int x , long l , Integer i , Object o , Throw t , Slip u , boolean v ) { tell v ? " + all[k] + " ; } }");
      kind("?", 0, all[k + 1]);
      Door.due("fault of " + text, door.faults(0), all[k + 1].equals("-") ? "5@" + at("?", 0) : "");
    }
  }

  private static void values() {
    world("class a { void f ( int x ) { tell 7 + 2 * 3 ; tell - 5 div 2 ; tell - 5 % 3 ; tell 5 % - 3 ; tell 1 < 2 ; "
        + "tell 2 <= 1 ; tell 1 == 1 && true ; tell false || ! true ; "
        + "tell ( byte ) 200 ; tell 9999 * 9999 * 9999 ; tell ( long ) 9999 * 9999 * 9999 ; tell true ? 1 : 2 ; tell "
            + "x + 1 ; tell 1 div 0 ; tell 1 % 0 ; tell false && 1 div 0 == 1 ; tell ( Integer ) 1 ; tell null ; tell "
            + "true != false ; tell ( boolean ) false ; } }");
    value("+", 0, "13");
    value("*", 0, "6");
    value("7", 0, "7");
    value("div", 0, "-2");
    value("%", 0, "-2");
    value("%", 1, "2");
    value("<", 0, "true");
    value("<=", 0, "false");
    value("&&", 0, "true");
    value("||", 0, "false");
    value("!", 0, "false");
    value("(", 1, "-56");
    value("*", 2, "" + 9999 * 9999 * 9999);
    value("*", 4, "" + 9999L * 9999 * 9999);
    value("?", 0, "1");
    value("+", 1, "-");
    value("x", 1, "-");
    value("div", 1, "-");
    value("%", 2, "-");
    value("&&", 1, "-");
    value("(", 3, "-");
    value("null", 0, "-");
    value("!=", 0, "true");
    value("(", 4, "false");
    value("tell", 0, "-");
    world("class a { void f ( ) { tell ( Object ) 5 ; tell ( long ) 5 ; tell ( Integer ) ( byte ) 5 ; } }");
    value("(", 1, "-");
    kind("(", 1, "Object");
    value("(", 2, "5");
    kind("(", 2, "long");
    value("(", 3, "-");
    value("(", 4, "5");
  }

  private static void constants() {
    world("class a { static final int k = 3 ; static int n = 3 ; final int m = 3 ; static final byte b = 300 ; "
        + "static final long l = k ; static final Integer i = 3 ; static final int c = d ; static final int d = c + "
        + "1 ; static final int e = g * 2 ; static final int g = 5 ; "
        + "int f ( a x , int y ) { final int w = k + 1 ; final int v = y ; int u = 1 ; tell w ; tell v ; tell u ; "
            + "tell k ; tell n ; tell m ; tell b ; tell l ; tell i ; tell c ; tell e ; tell a . k ; tell x . k ; tell h "
            + ". s ; tell super . k ; return w + k ; } } interface h { int s = 4 ; boolean t = s < 5 ; }");
    value("w", 1, "4");
    value("v", 1, "-");
    value("u", 1, "-");
    value("k", 3, "3");
    value("n", 1, "-");
    value("m", 1, "-");
    value("b", 1, "-");
    kind("b", 1, "byte");
    value("l", 1, "3");
    kind("l", 1, "long");
    value("i", 1, "-");
    value("c", 2, "-");
    value("e", 1, "10");
    value("k", 4, "3");
    value("k", 5, "-");
    value("s", 0, "4");
    value("k", 6, "-");
    value("+", 2, "7");
    Door.due("a constant over a constant", door.value(0, at("<", 0)), "true");
    world("class a extends b { int f ( ) { return super . k + k ; } } class b { static final int k = 3 ; }");
    value("k", 0, "-");
    kind("k", 0, "int");
    value("k", 1, "3");
    // Some of them turn out to be constant at last, and the last one not at all.
    world("class a { static final int k = n + 1 ; static final int n = m + 1 ; static final int m = 3 ; static final int b = f ( ) ; static int f ( ) { return k ; } }");
    value("+", 0, "5");
    value("k", 1, "5");
    value("n", 0, "4");
    // They may hang on one another in any sequence, and over units.
    world("class a { static final int k = b . k + 1 ; }", "class b { static final int n = 4 ; static final int k = c . k * n ; }", "class c { static final byte k = 10 ; }");
    value("+", 0, "41");
    world("class a { void f ( ) { final int x = x + 1 ; final byte y = 127 ; tell y ; final byte z = y + 1 ; tell z ; } }");
    value("+", 0, "-");
    value("y", 1, "127");
    value("z", 1, "-");
    // No REF is constant, whatever stands behind its =.
    world("class a { static final Object k = 5 ; static final Integer n = 5 ; void f ( ) { final Object x = 5 ; final Integer y = 5 ; tell x ; tell y ; tell k ; tell n ; } }");
    for (String name : new String[] {"x", "y", "k", "n"}) value(name, 1, "-");
    kind("x", 1, "Object");
    kind("k", 1, "Object");
  }

  /** From the loosest sign on, and of like ones the left one first: told by what each of two signs is then. */
  private static void binding() {
    String[][] all = {
      {"true || true && false", "||", "true", "&&", "false"}, {"true || false && true", "||", "true", "&&", "false"}, {"false && true || true", "&&", "false", "||", "true"},
      {"false && false == false", "&&", "false", "==", "true"}, {"false == false && false", "==", "true", "&&", "false"},
      {"true == 1 < 2", "==", "true", "<", "true"}, {"true != 2 <= 1", "!=", "true", "<=", "false"}, {"1 < 2 == false", "<", "true", "==", "false"},
      {"1 < 2 + 3", "<", "true", "+", "5"}, {"5 - 3 <= 1", "-", "2", "<=", "false"}, {"2 + 3 * 4", "+", "14", "*", "12"}, {"2 * 3 + 4", "*", "6", "+", "10"},
      {"9 - 8 div 3", "-", "7", "div", "2"}, {"9 % 5 - 1", "%", "4", "-", "3"}, {"9 - 5 + 1", "-", "4", "+", "5"}, {"9 + 5 - 1", "+", "14", "-", "13"},
      {"20 div 5 * 2", "div", "4", "*", "8"}, {"7 * 3 % 4", "*", "21", "%", "1"}, {"7 % 4 * 2", "%", "3", "*", "6"}, {"50 div 7 % 4", "div", "7", "%", "3"},
      {"true == false != false", "==", "false", "!=", "false"}, {"true != false == false", "!=", "true", "==", "false"},
      {"- 2 * 3", "-", "-2", "*", "-6"}, {"- 7 % 4", "-", "-7", "%", "-3"}, {"! true == false", "!", "false", "==", "true"}, {"! true || true", "!", "false", "||", "true"},
      {"( int ) 5 + 1", "(", "5", "+", "6"}, {"( byte ) 200 * 2", "(", "-56", "*", "-112"},
      {"true ? false : true || true", "?", "false", "||", "true"}, {"false || true ? 1 : 2", "||", "true", "?", "1"}, {"false ? 1 : 2 + 3", "?", "5", "+", "5"},
    };
    for (String[] each : all) {
      world("interface a { long k = 0 ; boolean n = true ; } class b { void f ( ) { tell " + each[0] + " ; } }");
      int from = at("tell", 0);
      for (int k = 1; k < each.length; k += 2) {
        int place = from;
        while (!Door.plain(text).get(place).equals(each[k])) place++;
        Door.due(each[k] + " of " + each[0], door.value(0, place), each[k + 1]);
      }
    }
    // Signs alike, told by which of them has a TYPE.
    String[][] types = {
      {"1 < 2 < 3", "boolean -"}, {"1 && true && true", "- -"}, {"true && true && 1", "boolean -"}, {"1 || true || true", "- -"}, {"true || true || 1", "boolean -"},
      {"x < y instanceof b", "- -"}, {"y instanceof b == z", "boolean boolean"}, {"z == y instanceof b", "boolean boolean"}, {"y instanceof b && z", "boolean boolean"},
      {"x + 1 < 2 * x", "int boolean int"}, {"z = z == z", "boolean boolean"}, {"x = x += 1", "int int"}, {"x += x = 1", "int int"}, {"z ? x = 1 : x", "int int"},
      {"z ? x : z ? x : y", "Object Object"}, {"z ? z ? x : 1 : 2", "int int"}, {"z || z ? z && z : ! z", "boolean boolean boolean boolean"},
    };
    for (String[] each : types) {
      world("class b { void f ( int x , Object y , boolean z ) { tell " + each[0] + " ; } }");
      StringBuilder kinds = new StringBuilder();
      int to = Door.plain(text).size() - 3;
      for (int place = at("tell", 0) + 1; place < to; place++) {
        boolean isSign = "< <= == != && || instanceof + - * = += ? !".contains(Door.plain(text).get(place));
        if (isSign) kinds.append(kinds.length() > 0 ? " " : "").append(door.kind(0, place));
      }
      Door.due("kinds of " + each[0], kinds.toString(), each[1]);
    }
  }

  private static void phases() {
    world("class a { void f ( byte x ) { } void f ( long x ) { } void f ( Object x ) { } void g ( Integer x ) { } "
        + "void g ( Object x ) { } void g ( boolean x ) { } "
        + "void h ( ) { f ( 1 ) ; f ( null ) ; f ( this ) ; f ( ( byte ) 1 ) ; g ( 1 ) ; g ( true ) ; g ( ) ; q ( ) "
            + "; g ( z ) ; new a ( ) ; new a ( 1 ) ; new Object ( ) ; new i ( ) ; } } interface i { }");
    phase("f", 3, 1, 1);
    meant("f", 3, "method a.f(long)");
    phase("f", 4, 1, 1);
    meant("f", 4, "method a.f(Object)");
    phase("f", 5, 1, 1);
    phase("f", 6, 1, 2);
    meant("f", 6, "method a.f(byte)");
    phase("g", 3, 2, 2);
    meant("g", 3, "method a.g(Integer)");
    phase("g", 4, 1, 1);
    phase("g", 5, 0, 0);
    phase("q", 0, 0, 0);
    phase("g", 6, 0, 0);
    phase("new", 0, 1, 1);
    phase("new", 1, 0, 0);
    phase("new", 2, 1, 1);
    phase("new", 3, 0, 0);
    phase("f", 0, 0, 0);
    world("class a { a ( long x ) { } a ( Integer x ) { this ( 1 ) ; } a ( int x , Integer y ) { } a ( Integer x , "
        + "int y ) { } a ( ) { this ( 1 , 1 ) ; } a ( boolean x ) { this ( true , x ) ; } } class b extends a { b ( "
        + ") { super ( 2 ) ; } "
        + "int f ( ) { return 1 ; } static int g ( ) { return f ( ) ; } static int h ( ) { return super . f ( ) + b . f ( ) ; } }");
    phase("this", 0, 1, 1);
    phase("this", 1, 2, 2);
    phase("this", 2, 0, 0);
    phase("super", 0, 1, 1);
    Door.due("this is no EXPR there", door.kind(0, at("this", 0)) + door.meant(0, at("this", 0)), "--");
    phase("f", 1, 1, 1);
    phase("f", 2, 0, 0);
    phase("f", 3, 1, 1);
    meant("f", 3, "-");
  }

  private static void wrong() {
    Sourcedoor empty = new Sourcedoor();
    Door.throwing("meant", IndexOutOfBoundsException.class, () -> empty.meant(0, 0));
    Door.throwing("kind", IndexOutOfBoundsException.class, () -> empty.kind(4, 0));
    Door.throwing("value", IndexOutOfBoundsException.class, () -> empty.value(-1, 0));
    Door.throwing("phase", IndexOutOfBoundsException.class, () -> empty.phase(0, -1));
    Door.throwing("applies", IndexOutOfBoundsException.class, () -> empty.applies(3, 0));
    world("class a { int k = 1 ;");
    Door.due("a broken unit", door.meant(0, 6) + door.kind(0, 6) + door.value(0, 6) + door.phase(0, 6) + door.applies(0, 6), "---00");
  }
}
