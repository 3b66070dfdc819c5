/** Runs (promises 36 to 41). */
public final class RunsTest {
  private static final String HEAD = "class a { static int M ( int x , int y ) { ";

  public static void main(String[] args) {
    samples();
    refused();
    values();
    boxes();
    boxesOfParts();
    manyObjects();
    references();
    evaluation();
    calls();
    objects();
    statics();
    loops();
    tries();
    counts();
    stops();
    asked();
    turned();
    Door.end();
  }

  private static Sourcedoor run(String text, int x, int y, String output, String want) {
    return run(Door.faults(text), text, x, y, output, want);
  }

  /** A result that was thrown has a ! ahead of it. */
  private static Sourcedoor run(Sourcedoor door, String text, int x, int y, String output, String want) {
    boolean stopped = want.equals("LONG") || want.equals("DEEP") || want.equals("FULL");
    boolean thrown = want.charAt(0) == '!';
    String result = thrown ? want.substring(1) : want;
    Door.due("run of " + text, door.run(0, x, y), stopped ? 2 : thrown ? 0 : 1);
    Door.due("outcome of " + text, door.outcome(0), stopped ? 2 : thrown ? 0 : 1);
    Door.due("output of " + text, door.output(), output);
    Door.due("result of " + text, door.result(), result);
    Door.due("turned " + text, door.isTurned(0, x, y), true);
    Door.due("sound " + text, door.isSound(), true);
    Door.due("output behind that of " + text, door.output(), output);
    return door;
  }

  private static Sourcedoor body(String body, int x, int y, String output, String want) {
    return run(HEAD + body + " } }", x, y, output, want);
  }

  private static void outcome(Sourcedoor door, int... want) {
    for (int k = 0; k < want.length; k++) Door.due("outcome " + (k + 1) + " of " + door.text(0), door.outcome(k + 1), want[k]);
  }

  private static void samples() {
    Sourcedoor door = new Sourcedoor();
    door.sample(0, 0);
    run(door, "sample 0", 4, 5, "6 3 2", "3");
    door = new Sourcedoor();
    door.sample(1, 1);
    door.sample(0, 2);
    run(door, "sample 2", 4, 5, "16 9", "4");
    outcome(door, 2, 16, 6, 3, 1, 0);
    door = new Sourcedoor();
    door.sample(0, 3);
    run(door, "sample 3", 5, 7, "2 7", "2");
    run(door, "sample 3", 0, 7, "7", "0");
    outcome(door, 1, 10, 2, 2, 1, 1);
    run(door, "sample 3", -3, 7, "7", "-3");
    door = new Sourcedoor();
    door.sample(0, 4);
    run(door, "sample 4", 3, 4, "9", "3");
    run(door, "sample 4", 4, 3, "15", "9");
  }

  private static void refused() {
    Sourcedoor door = Door.world("class a { int M ( int x , int y ) { return 1 ; } }", "class b { static int M ( int x , int y ) { return x + y ; } }");
    Door.due("no M", door.run(0, 1, 2), -9);
    Door.due("result without a run", door.result(), "-");
    Door.due("outcome without a run", door.outcome(0), -1);
    Door.due("M", door.run(1, 1, 2), 1);
    Door.due("result", door.result(), "3");
    door.type(3, 0, -1, -1, -1, -1);
    Door.due("a world that is not well", door.run(1, 5, 6), -9);
    Door.due("the last run stays", door.result(), "3");
    Door.due("refused", door.house(4), 2);
    Door.due("turned without a run", door.isTurned(1, 1, 1), true);
    Door.throwing("run unit", IndexOutOfBoundsException.class, () -> door.run(4, 0, 0));
    Door.throwing("isTurned unit", IndexOutOfBoundsException.class, () -> door.isTurned(-1, 0, 0));
    Door.due("refused", door.house(4), 2);
  }

  private static void values() {
    body("tell x + y ; tell x - y ; tell x * y ; tell x div y ; tell x % y ; tell - x ; return 1 ;", -7, 2, "-5 -9 -14 -3 -1 7", "1");
    body("tell x < y ; tell x <= y ; tell x == y ; tell x != y ; tell ! ( x < y ) ; return 1 ;", 2, 2, "false true true false true", "1");
    body("tell x + 1 ; tell - y ; tell y div x ; tell y % - 1 ; tell y * y ; return x * 2 ;", Integer.MAX_VALUE, Integer.MIN_VALUE, Integer.MIN_VALUE + " " + Integer.MIN_VALUE + " -1 0 0", "-2");
    body("return x div y ;", Integer.MIN_VALUE, -1, "", "" + Integer.MIN_VALUE);
    body("long z = x ; tell z * y ; tell z + 1 ; tell ( int ) ( z + 1 ) ; z += y ; tell z ; tell x + ( long ) y ; "
        + "return ( int ) z ;", Integer.MAX_VALUE, Integer.MAX_VALUE,
        "4611686014132420609 2147483648 -2147483648 4294967294 4294967294", "-2");
    body("byte b = ( byte ) x ; tell b ; b += y ; tell b ; b += 1 ; tell b ; tell b + 1 ; tell ( byte ) ( b * 300 ) "
        + "; return b ;", 200, 255, "-56 -57 -56 -55 96", "-56");
    body("long z = 9999 ; z = z * z * z * z ; tell z ; z = z * z ; tell z ; tell - z ; return 0 ;", 0, 0, "9996000599960001 " + 9996000599960001L * 9996000599960001L + " " + -(9996000599960001L * 9996000599960001L), "0");
    body("tell x < 0 && y div x == 1 ; tell x == 0 || y div x == 1 ; tell x == 0 ? 1 : y div x ; return y div x ;", 0, 1, "false true 1", "!Divide");
    body("return y % x ;", 0, 1, "", "!Divide");
    run("class a { static boolean M ( int x , int y ) { boolean z = x < y ; tell z ; tell z == true ; tell z && ( "
        + "z = false ) ; tell z ; return z || y == 2 ; } }", 1, 2, "true true false false", "true");
    run("class a { static void M ( int x , int y ) { tell x ; } }", 1, 2, "1", "void");
    run("class a { static long M ( int x , int y ) { return x ; } }", 1, 2, "", "1");
    run("class a { static Object M ( int x , int y ) { if ( x == 1 ) return x ; if ( x == 2 ) return null ; return new a ( ) ; } }", 1, 2, "", "1");
  }

  private static void boxes() {
    body("Integer i = x ; Object o = i ; Object n = x ; tell i ; tell o == n ; tell i == x ; tell o == i ; Integer "
        + "j = x + 1 ; tell i == j ; tell i + j ; tell j div i ; return i ;", 3, 0, "3 true true true false 7 1", "3");
    body("Integer i = null ; tell i ; tell i == null ; return i ;", 3, 0, "null true", "!Null");
    body("Integer i = null ; tell ( i = 3 ) + x ; int z = i ; long w = i ; z += i ; tell z + w ; return - i ;", 3, 0, "6 9", "-3");
    body("Object o = x ; tell ( Integer ) o ; tell ( int ) ( Integer ) o ; o = new a ( ) ; tell o instanceof "
        + "Integer ; return ( Integer ) o ;", 3, 0, "3 3 false", "!Cast");
    body("Integer i = x < 1 ? 1 : null ; tell i ; tell x < 1 ? i : 2 ; int z = x < 5 ? i : 2 ; return z ;", 3, 0, "null 2", "!Null");
    body("long z = x < 5 ? ( Integer ) 7 : ( long ) 2 ; tell z ; Object o = x < 5 ? 1 : new Object ( ) ; tell o ; return 0 ;", 3, 0, "7 1", "0");
  }

  private static void boxesOfParts() {
    body("Integer i = x ; tell x < 1 ? 2 : i ; Object o = x < 1 ? i : 5 ; tell o ; tell o instanceof Integer ; o = x < 1 ? ( Object ) new a ( ) : x ; tell o ; "
        + "tell x < 1 ? null : 6 ; i = null ; return x < 1 ? 3 : i ;", 3, 0, "3 5 true 3 6", "!Null");
    body("Integer i = null ; long z = x < 5 ? i : ( long ) 1 ; return 1 ;", 3, 0, "", "!Null");
    body("Integer i = null ; tell x < 5 ? i : null ; tell x < 5 ? 4 : i ; return 1 ;", 3, 0, "null 4", "1");
    body("Integer i = null ; tell null == i ; tell i == null ; tell null != i ; i = 4 ; tell null == i ; tell null != i ; Object o = null ; tell null == o ; return 1 ;",
        3, 0, "true true false false true true", "1");
    body("Integer i = 4 ; Object o = 4 ; tell o == i ; tell i == o ; o = 5 ; tell i != o ; o = new Slip ( ) ; tell o == i ; tell i == null ; tell i == 4 ; tell ( long ) 4 == i ; "
        + "return 1 ;", 3, 0, "true true true false false true true", "1");
  }

  /** More than has room at first: each object keeps its own fields, as far as they may go. */
  private static void manyObjects() {
    StringBuilder fields = new StringBuilder();
    for (int k = 1; k < 30; k++) fields.append("long ").append((char) (k < 26 ? 'a' + k : 'A' + k - 26)).append(" ; ");
    run("class a { a a ; " + fields + "static long M ( int x , int y ) { a z = null ; int s = 0 ; while ( s < x ) { a w = new a ( ) ; w . b = s ; w . D = s * s ; "
        + "w . a = z ; z = w ; s += 1 ; } long t = 0 ; while ( z != null ) { t += z . b * 1000 + z . D + z . c ; z = z . a ; } return t ; } }",
        150, 0, "", "" + (149 * 150 / 2 * 1000L + 149L * 150 * 299 / 6));
    body("int s = 0 ; while ( s < 150 ) { try { s += 1 ; throw new Slip ( ) ; } catch ( Slip z ) { } } return s ;", 0, 0, "", "150");
    outcome(body("int s = 0 ; while ( s < 150 ) try { s += 1 ; throw new Slip ( ) ; } catch ( Slip z ) { try { throw z ; } catch ( Slip w ) { } } return s ;", 0, 0, "", "150"),
        0, 5 + 6 * 150, 1, 1, 150, 150);
  }

  private static void references() {
    String types = "interface i { } class b implements i { } class c extends b { static b f ( int x ) { if ( x == 1 ) return "
        + "new b ( ) ; if ( x == 2 ) return new c ( ) ; return null ; } ";
    run(types + "static int M ( int x , int y ) { b z = f ( x ) ; tell z ; tell z instanceof c ; tell z instanceof i ; "
        + "tell ( i ) z ; tell ( c ) z ; return 1 ; } }", 1, 0, "b false true b", "!Cast");
    run(types + "static int M ( int x , int y ) { b z = f ( x ) ; tell z ; tell z instanceof c ; tell z instanceof i ; "
        + "tell ( c ) ( i ) z ; return 1 ; } }", 2, 0, "c true true c", "1");
    run(types + "static int M ( int x , int y ) { b z = f ( x ) ; tell z ; tell z instanceof Object ; tell ( c ) z ; tell "
        + "z == null ; return 1 ; } }", 3, 0, "null false null true", "1");
    run(types + "static int M ( int x , int y ) { b z = f ( x ) ; b w = z ; tell z == w ; tell z == f ( x ) ; tell new "
        + "Object ( ) == new Object ( ) ; return 1 ; } }", 1, 0, "true false false", "1");
    run("package p ; class a { static int M ( int x , int y ) { tell new a ( ) ; tell new Slip ( ) ; Object z = "
        + "new Cast ( ) ; tell z ; return 1 ; } }", 1, 0, "p.a Slip Cast", "1");
  }

  private static void evaluation() {
    String types = "class a { int k ; static int n ; a z ; static int f ( int x ) { tell x ; return x ; } static Integer g ( "
        + "int x ) { tell x ; return null ; } static a h ( int x ) { tell x ; return null ; } int i ( int x , int y "
        + ") { return x ; } static int j ( int x ) { return x ; } ";
    String[][] due = {
      {"return f ( 1 ) + f ( 2 ) * f ( 3 ) ;", "1 2 3", "7"},
      {"return g ( 1 ) + g ( 2 ) ;", "1 2", "!Null"},
      {"return f ( 1 ) + g ( 2 ) * f ( 3 ) ;", "1 2 3", "!Null"},
      {"h ( 1 ) . k = f ( 2 ) ; return 0 ;", "1", "!Null"},
      {"h ( 1 ) . n = f ( 2 ) ; return 0 ;", "1", "!Null"},
      {"h ( 1 ) . k += f ( 2 ) ; return 0 ;", "1", "!Null"},
      {"return h ( 1 ) . i ( f ( 2 ) , 3 ) ;", "1", "!Null"},
      {"return h ( 1 ) . j ( f ( 2 ) ) ;", "1", "!Null"},
      {"return h ( 1 ) . n ;", "1", "!Null"},
      {"return new a ( ) . i ( g ( 1 ) , f ( 2 ) ) ;", "1", "!Null"},
      {"return new a ( ) . i ( f ( 1 ) , g ( 2 ) ) ;", "1 2", "!Null"},
      {"return new a ( ) . n + new a ( ) . j ( f ( 4 ) ) ;", "4", "4"},
      {"x += f ( x = 5 ) ; return x ;", "5", "8"},
      {"x = ( x = 5 ) + x ; return x ;", "", "10"},
      {"n = 4 ; n += n += 2 ; a w = new a ( ) ; w . k = 3 ; w . k += w . k = 7 ; tell w . k ; return n ;", "10", "10"},
      {"a w = new a ( ) ; w . z = w ; w . z . z . k += 3 ; tell ( w . k = 5 ) + w . k ; return w . z . k ;", "10", "5"},
      {"tell g ( 1 ) == null ; return g ( 1 ) == 2 ? 1 : 2 ;", "1 true 1", "!Null"},
      {"tell f ( 1 ) < f ( 2 ) && f ( 3 ) < 1 && f ( 4 ) < 1 ; tell f ( 1 ) < 1 || f ( 2 ) == 2 || f ( 3 ) == 3 ; "
          + "return x < 1 ? f ( 5 ) : f ( 6 ) ;", "1 2 3 false 1 2 true 6", "6"},
    };
    String[][] second = {
      {"a w = new a ( ) ; a v = new a ( ) ; v . k = 3 ; v . k += w . k += 2 ; tell w . k ; return v . k ;", "2", "5"},
      {"a w = new a ( ) ; w . z = new a ( ) ; w . z . z = w ; w . z . k += x ; w . z . z . k += 1 ; tell w . k ; return w . z . k ;", "1", "3"},
      {"a w = new a ( ) ; a v = new a ( ) ; w . n = 4 ; v . n += 2 ; v . z = w ; ( v . z ) . k = 9 ; tell v . k ; tell v . n ; return w . k ;", "0 6", "9"},
      {"a w = new a ( ) ; a v = w ; w . z = v ; v . k = ( v = null ) == null ? 7 : 8 ; tell v ; return w . k ;", "null", "7"},
      {"a w = new a ( ) ; a v = w ; v . k += ( v = new a ( ) ) . k + 7 ; tell v . k ; return w . k ;", "0", "7"},
    };
    for (String[] each : second) run(types + "static int M ( int x , int y ) { " + each[0] + " } }", 3, 2, each[1], each[2]);
    for (String[] each : due) run(types + "static int M ( int x , int y ) { " + each[0] + " } }", 3, 2, each[1], each[2]);
  }

  private static void calls() {
    run("class b { int f ( ) { return 1 ; } int g ( ) { return f ( ) ; } static int h ( ) { return 5 ; } } class a "
        + "extends b { int f ( ) { return 2 + super . f ( ) ; } int i ( ) { return super . g ( ) ; } "
        + "static int M ( int x , int y ) { b z = new a ( ) ; tell z . f ( ) ; tell z . g ( ) ; tell ( ( a ) z ) . i "
            + "( ) ; tell z . h ( ) ; tell h ( ) ; return new b ( ) . g ( ) ; } }", 1, 2, "3 3 3 5 5", "1");
    run("interface i { int f ( int x ) ; } abstract class b implements i { int g ( ) { return f ( 4 ) ; } } class "
        + "a extends b { int f ( int x ) { return x * 2 ; } static int M ( int x , int y ) { i z = new a ( ) ; "
        + "return z . f ( x ) + new a ( ) . g ( ) ; } }", 3, 0, "", "14");
    run("class a { int f ( byte x ) { return 1 ; } int f ( long x ) { return 2 ; } int f ( Integer x ) { return 3 "
        + "; } int f ( Object x ) { return 4 ; } static int M ( int x , int y ) { a z = new a ( ) ; Integer w = 1 ; "
        + "byte b = 1 ; tell z . f ( b ) ; tell z . f ( x ) ; tell z . f ( w ) ; tell z . f ( null ) ; return z . f "
        + "( z ) ; } }", 1, 2, "1 2 3 3", "4");
    run("class a { int k ; int f ( int k ) { this . k = k ; return k + this . k ; } int k ( ) { return k ; } "
        + "static int M ( int x , int y ) { a z = new a ( ) ; tell z . f ( 4 ) ; return z . k ( ) ; } }", 1, 2, "8", "4");
    run("class b { int k = 5 ; static int n = 7 ; } class a extends b { int k = 2 ; int n = 1 ; int f ( ) { super . k += 3 ; super . n = 9 ; tell super . k ; tell super . n ; "
        + "return super . k * 10 + k + n ; } static int M ( int x , int y ) { a z = new a ( ) ; tell z . f ( ) ; tell z . k ; return ( ( b ) z ) . k ; } }", 1, 2, "8 9 83 2", "8");
    run("class a { static int f ( int x ) { return x < 2 ? x : f ( x - 1 ) + f ( x - 2 ) ; } static int M ( int x "
        + ", int y ) { return f ( x ) ; } }", 10, 2, "", "55");
  }

  private static void objects() {
    run("class b { int k = 5 ; Object o ; b ( ) { tell k ; k = f ( ) ; } b ( int x ) { this ( ) ; tell x ; } int f ( ) { return 7 ; } } "
        + "class a extends b { int n = k + 1 ; a ( ) { super ( 3 ) ; tell n ; } int f ( ) { tell n ; return 9 ; } "
            + "static int M ( int x , int y ) { a z = new a ( ) ; tell z . o ; tell z . k ; return z . n ; } }", 1, 2, "5 0 3 10 null 9", "10");
    Sourcedoor door = run("class b { b ( int x ) { } } class a { static int f ( int x ) { throw new Slip ( ) ; } static int M ( int "
        + "x , int y ) { try { new b ( f ( 1 ) ) ; } catch ( Slip z ) { tell z ; } return 1 ; } }", 1, 2, "Slip", "1");
    outcome(door, 1, 7, 2, 2, 2, 1);
    run("class b extends c { } class c { int k = 3 ; final byte m = 4 ; boolean w ; long l ; } class a { static "
        + "int M ( int x , int y ) { b z = new b ( ) ; tell z . w ; tell z . l ; tell z . m ; return z . k ; } }", 1, 2, "false 0 4", "3");
    run("class a { int k ; a n ; a ( int k , a n ) { this . k = k ; this . n = n ; } static int M ( int x , int y "
        + ") { a z = null ; while ( 0 < x ) { z = new a ( x , z ) ; x += - 1 ; } int s = 0 ; while ( z != null ) { s "
        + "+= z . k ; z = z . n ; } return s ; } }", 9, 2, "", "45");
  }

  private static void statics() {
    run("class a { static int k = n + 1 ; static int n = 5 ; static final int m = c + 1 ; static final int c = 7 ; "
        + "static boolean b ; static Object o ; static int M ( int x , int y ) { tell k ; tell n ; tell m ; tell b ; "
        + "tell o ; return c ; } }", 1, 2, "1 5 8 false null", "7");
    run("class a { static int k = f ( 1 ) ; int z = f ( 9 ) ; static int f ( int x ) { tell x ; return x ; } "
        + "static int n = f ( 2 ) + k ; static int M ( int x , int y ) { return n ; } }", 1, 2, "1 2", "3");
    Sourcedoor door = run("class a { static int f ( int x ) { return 1 div x ; } static int k = f ( 0 ) ; static int M ( int x , int "
        + "y ) { tell 1 ; return 1 ; } }", 1, 2, "", "!Divide");
    outcome(door, 0, 2, 1, 1, 1, 1);
    door = run("class a { static int k = 1 div 0 ; static int M ( int x , int y ) { return 1 ; } }", 1, 2, "", "!Divide");
    outcome(door, 0, 0, 0, 0, 1, 1);
    door = run("class a { static Integer n ; static int k = n ; static int M ( int x , int y ) { return 1 ; } }", 1, 2, "", "!Null");
    outcome(door, 0, 0, 0, 0, 1, 1);
    door = run("class a { static int M ( int x , int y ) { return 1 ; } } interface i { Object o = new Slip ( ) ; Object n = ( a ) o ; }", 1, 2, "", "!Cast");
    outcome(door, 0, 0, 0, 0, 2, 1);
    door = Door.faults("class a { static int k = b . n + 1 ; static int M ( int x , int y ) { return k ; } }", "class b { static int n = i . m * 2 ; }", "interface i { int m = a . k + 3 ; }");
    run(door, "statics of several units", 1, 2, "", "1");
    Door.due("another run", door.run(0, 1, 1), 1);
    Door.due("each run begins anew", door.result(), "1");
  }

  private static void loops() {
    body("int s = 0 ; while ( x < y ) { x += 1 ; if ( x == 3 ) continue ; if ( x == 6 ) break ; s += x ; } tell x ; return s ;", 0, 9, "6", "12");
    body("int s = 0 ; do { s += x ; if ( x == 2 ) { x += 5 ; continue ; } x += 1 ; } while ( x < y ) ; return s ;", 0, 9, "", "18");
    body("do { if ( y < x ) break ; x += 1 ; } while ( true ) ; while ( true ) { while ( true ) break ; break ; } return x ;", 0, 3, "", "4");
    body("if ( x < y ) if ( x < 0 ) tell 1 ; else tell 2 ; if ( y < x ) { tell 3 ; } else ; ; { ; } return 4 ;", 0, 3, "2", "4");
  }

  private static void tries() {
    String types = "class e extends Throw { } class d extends e { } class a { static int f ( int x ) throws e , d { if ( x == "
        + "1 ) throw new e ( ) ; if ( x == 2 ) throw new d ( ) ; if ( x == 3 ) throw new Slip ( ) ; return x ; } ";
    String main = "static int M ( int x , int y ) throws Throw { ";
    run(types + main + "try { tell f ( x ) ; } catch ( d z ) { tell z ; } catch ( e z ) { tell z ; return 8 ; } finally { tell 5 "
        + "; } return 9 ; } }", 1, 0, "e 5", "8");
    run(types + main + "try { tell f ( x ) ; } catch ( d z ) { tell z ; } catch ( e z ) { tell z ; return 8 ; } finally { tell 5 "
        + "; } return 9 ; } }", 2, 0, "d 5", "9");
    run(types + main + "try { tell f ( x ) ; } catch ( d z ) { tell z ; } catch ( e z ) { tell z ; return 8 ; } finally { tell 5 "
        + "; } return 9 ; } }", 3, 0, "5", "!Slip");
    run(types + main + "try { tell f ( x ) ; } catch ( d z ) { tell z ; } catch ( e z ) { tell z ; return 8 ; } finally { tell 5 "
        + "; } return 9 ; } }", 4, 0, "4 5", "9");
    run(types + main + "try { try { f ( x ) ; } finally { tell 1 ; } } catch ( e z ) { tell 2 ; try { throw z ; } finally { "
        + "return 3 ; } } return 4 ; } }", 1, 0, "1 2", "3");
    run(types + main + "try { return x ; } finally { x = 7 ; tell x ; } } }", 1, 0, "7", "1");
    run(types + main + "try { f ( 1 ) ; } finally { return 6 ; } } }", 1, 0, "", "6");
    run(types + main + "try { return 1 ; } finally { throw new Slip ( ) ; } } }", 1, 0, "", "!Slip");
    run(types + main + "while ( true ) { try { return 1 ; } finally { break ; } } return 2 ; } }", 1, 0, "", "2");
    run(types + main + "int s = 0 ; while ( s < 3 ) { try { s += 1 ; if ( s == 2 ) continue ; tell s ; } finally { tell 0 ; } } "
        + "return s ; } }", 1, 0, "1 0 0 3 0", "3");
    run(types + main + "while ( true ) { try { try { break ; } finally { tell 1 ; } } finally { tell 2 ; } } tell 3 ; try { while "
        + "( true ) { break ; } tell 4 ; } finally { tell 5 ; } return 0 ; } }", 1, 0, "1 2 3 4 5", "0");
    run(types + main + "while ( true ) { try { try { break ; } finally { while ( true ) { tell 1 ; break ; } } } finally { tell 2 ; } } tell 3 ; return 0 ; } }", 1, 0, "1 2 3", "0");
    run(types + main + "try { while ( true ) { try { try { break ; } finally { while ( true ) break ; } } finally { tell 2 ; } } tell 3 ; } finally { tell 4 ; } tell 5 ; "
        + "return 0 ; } }", 1, 0, "2 3 4 5", "0");
    run(types + main + "while ( x < 3 ) { x += 1 ; try { try { continue ; } finally { do { tell x ; continue ; } while ( false ) ; } } finally { tell 5 ; } } return 0 ; } }", 1, 0, "2 5 3 5", "0");
    run(types + main + "while ( true ) { try { try { return x ; } finally { while ( true ) { x += 1 ; if ( 3 < x ) break ; } } } finally { tell x ; } } } }", 1, 0, "4", "1");
    run(types + main + "try { throw null ; } catch ( Null z ) { tell z ; } try { tell 1 div 0 ; } catch ( Slip z ) { tell z ; "
        + "throw z ; } finally { tell 4 ; } return 1 ; } }", 1, 0, "Null Divide 4", "!Divide");
    run(types + main + "try { try { f ( 1 ) ; } catch ( e z ) { f ( 2 ) ; } catch ( Slip z ) { tell 9 ; } finally { tell 1 ; } } "
        + "catch ( d z ) { tell z ; } return 2 ; } }", 1, 0, "1 d", "2");
    run(types + main + "try { f ( 3 ) ; } catch ( Null z ) { tell 1 ; } catch ( Divide z ) { tell 2 ; } return 2 ; } }", 1, 0, "", "!Slip");
    run(types + main + "try { try { throw new e ( ) ; } finally { try { throw new d ( ) ; } catch ( d z ) { tell 1 ; } } } catch "
        + "( Throw z ) { tell z ; } return 0 ; } }", 1, 0, "1 e", "0");
    run(types + main + "try { try { throw new e ( ) ; } catch ( e z ) { throw z ; } } catch ( Throw z ) { throw z ; } } }", 1, 0, "", "!e");
    // Behind a try without a finally, in the BLOCK, the catch and the finally of another one, that other one goes on.
    run(types + main + "try { try { tell 1 ; } catch ( Slip z ) { } throw new Slip ( ) ; } catch ( Slip z ) { tell 2 ; } finally { tell 3 ; } return 4 ; } }", 1, 0, "1 2 3", "4");
    run(types + main + "try { try { throw new Slip ( ) ; } catch ( Slip z ) { tell 1 ; } throw new Null ( ) ; } catch ( Slip z ) { try { } catch ( Slip w ) { } "
        + "tell 2 ; throw z ; } finally { try { tell 3 ; } catch ( Slip w ) { } tell 4 ; } } }", 1, 0, "1 2 3 4", "!Null");
  }

  private static void counts() {
    // M; LOCAL; while; 3 times EXPR, but 2 times the item in it and f with its return; return.
    Sourcedoor door = run("class a { static int f ( int x ) { return x + 1 ; } static int M ( int x , int y ) { int s = 0 ; while ( "
        + "s < 2 ) { s = f ( s ) ; } return s ; } }", 0, 0, "", "2");
    outcome(door, 0, 13, 3, 2, 0, 0);
    // M; do; the ; and the EXPR twice; if and ; ; try and tell and ; ; return. A BLOCK is none.
    door = body("do ; while ( ( x += 1 ) < 2 ) ; { if ( x == 2 ) ; } try { tell 1 ; } finally { ; } return 1 ;", 0, 0, "1", "1");
    outcome(door, 1, 12, 1, 1, 0, 0);
    // A class without a constructor has one, which is a CALL; those of KNOWN classes are none. A box is no object.
    door = run("class c { } class b extends c { b ( ) { this ( 1 ) ; } b ( int x ) { } } class a { static int M ( int x , "
        + "int y ) { new b ( ) ; new Object ( ) ; Integer z = x ; return z ; } }", 4, 0, "", "4");
    outcome(door, 0, 8, 4, 4, 2, 0);
    // An object that is thrown again counts once; what the interpreter throws is made and thrown.
    door = body("try { try { throw new Slip ( ) ; } catch ( Slip z ) { throw z ; } } catch ( Slip z ) { try { throw null ; "
        + "} catch ( Null w ) { return 1 div 0 ; } } ", 0, 0, "", "!Divide");
    outcome(door, 0, 8, 1, 1, 3, 3);
    door.run(0, 1, 1);
    outcome(door, 0, 8, 1, 1, 3, 3);
  }

  private static void stops() {
    Sourcedoor door = body("while ( true ) ;", 0, 0, "", "LONG");
    outcome(door, 0, 2000, 1, 1, 0, 0);
    door = body("while ( true ) x += 1 ;", 0, 0, "", "LONG");
    outcome(door, 0, 2000, 1, 1, 0, 0);
    door = run("class a { static int f ( int x ) { return f ( x + 1 ) ; } static int M ( int x , int y ) { tell 1 ; "
        + "return f ( 1 ) ; } }", 0, 0, "1", "DEEP");
    outcome(door, 1, 1 + 2 + 23 * 2, 24, 24, 0, 0);
    door = run("class a { a ( ) { new a ( ) ; } static int M ( int x , int y ) { new a ( ) ; return 1 ; } }", 0, 0, "", "DEEP");
    outcome(door, 0, 48, 24, 24, 24, 0);
    door = body("while ( true ) { tell x ; x += 1 ; }", 0, 0, numbers(60), "FULL");
    outcome(door, 60, 2 + 60 * 3 + 2, 1, 1, 0, 0);
    Door.due("told 59", door.told(59), "59");
    Door.due("told 60", door.told(60), "-");
    // The EXPR of the 61st tell is come to.
    run("class a { static int k ; static int f ( ) { k += 1 ; return k ; } static int M ( int x , int y ) { while "
        + "( true ) { if ( k == 60 ) tell 1 div 0 ; tell f ( ) ; } } }", 0, 0, numbers(61).substring(2), "!Divide");
    // No catch and no finally is run then.
    body("try { while ( x < 1 ) ; } catch ( Throw z ) { tell 1 ; } finally { tell 2 ; }" + " return 1 ;", 0, 0, "", "LONG");
    run("class a { static int f ( ) { try { return f ( ) ; } finally { tell 1 ; } } static int M ( int x , int y ) "
        + "{ return f ( ) ; } }", 0, 0, "", "DEEP");
    // The 25th CALL that would be under way, and the 2001st STEP: 1 + 1 + 2 * 974 + 1 + 1 + 1 + 1 + 23 * 2 are ahead of it.
    String both = "class a { static int g ( ) { return g ( ) ; } "
        + "static int M ( int x , int y ) { while ( 0 < x ) x += - 1 ; if ( y == 1 ) ; return g ( ) ; } }";
    outcome(run(both, 974, 1, "", "LONG"), 0, 2000, 24, 24, 0, 0);
    outcome(run(both, 973, 1, "", "DEEP"), 0, 1998, 24, 24, 0, 0);
    outcome(run(both, 974, 0, "", "DEEP"), 0, 1999, 24, 24, 0, 0);
  }

  private static String numbers(int many) {
    StringBuilder text = new StringBuilder();
    for (int k = 0; k < many; k++) text.append(k == 0 ? "" : " ").append(k);
    return text.toString();
  }

  private static void asked() {
    Sourcedoor door = new Sourcedoor();
    Door.due("output without a run", door.output(), "");
    Door.due("result without a run", door.result(), "-");
    Door.due("told without a run", door.told(0), "-");
    int[] due = {-1, 0, 0, 0, 0, 0, 0};
    for (int what = 0; what < 7; what++) Door.due("outcome without a run", door.outcome(what), due[what]);
    Door.throwing("told below", IllegalArgumentException.class, () -> door.told(-1));
    Door.throwing("outcome 7", IllegalArgumentException.class, () -> door.outcome(7));
    Door.throwing("outcome below", IllegalArgumentException.class, () -> door.outcome(-1));
    Sourcedoor two = body("tell x ; tell null ; tell true ; return 1 ;", -12, 0, "-12 null true", "1");
    Door.due("told 0", two.told(0), "-12");
    Door.due("told 1", two.told(1), "null");
    Door.due("told 2", two.told(2), "true");
    Door.due("told 3", two.told(3), "-");
    Door.due("told far", two.told(Integer.MAX_VALUE), "-");
    two.change(0, 1, 101);
    Door.due("the last run stays", two.output(), "-12 null true");
  }

  private static void turned() {
    Sourcedoor door = Door.faults("class a { a ( ) { this ( 1 ) ; } static int k = f ( ) ; a ( int x ) { tell x ; } int n = 4 ; static int f "
        + "( ) { tell 8 ; return 3 ; } static int M ( int x , int y ) { new a ( ) ; return k ; } int g ( ) { return "
        + "n ; } } class b { }");
    Door.due("turned", door.isTurned(0, 1, 1), true);
    Door.due("without a run", door.outcome(0), -1);
    Door.due("runs", door.house(6), 0);
    String text = door.text(0);
    door.run(0, 1, 1);
    Door.due("turned", door.isTurned(0, 5, 5), true);
    Door.due("text", door.text(0), text);
    Door.due("the last run stays", door.output(), "8 1");
    Door.due("turned of an empty world", new Sourcedoor().isTurned(3, 0, 0), true);
    Sourcedoor all = Door.faults("interface i { int k = 3 ; void f ( ) ; int g ( int x ) throws Throw ; int n = k + 1 ; } abstract class b implements i { static int m ; "
        + "abstract int h ( ) ; b ( ) { m += 1 ; } abstract int h ( int x ) ; int l = 5 ; "
        + "b ( int x ) { this ( ) ; } int g ( int x ) { return x + h ( x ) ; } }",
        "class a extends b { int h ( ) { return 1 ; } int d = 2 ; a ( int x ) { super ( x ) ; } int h ( int x ) { return l * d ; } "
            + "void f ( ) { tell n ; } static int M ( int x , int y ) { a z = new a ( x ) ; z . f ( ) ; return z . g ( y ) + m ; } a ( ) { } }");
    Door.due("turned with all sorts of members", all.isTurned(1, 2, 3), true);
    Door.due("run", all.run(1, 2, 3), 1);
    Door.due("told", all.output() + "/" + all.result(), "4/14");
    Door.due("sound", all.isSound(), true);
  }
}
