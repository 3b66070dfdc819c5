/** Each boundary that the document's sections name: the ninth, the last one that is let, the first that is not, none at all. */
public final class EdgesTest {
  private static final String MAIN = "class a { static int M ( int x , int y ) { ";

  public static void main(String[] args) {
    nothing();
    nine();
    unaries();
    instances();
    casts();
    behindTheLast();
    smallBytes();
    wrapping();
    divisors();
    steps();
    calls();
    tells();
    stopped();
    fullTexts();
    manyTypes();
    deepTexts();
    Door.end();
  }

  private static Sourcedoor run(String text, int x, int y, String output, String result) {
    Sourcedoor door = Door.faults(text);
    int end = result.equals("LONG") || result.equals("DEEP") || result.equals("FULL") ? 2 : 1;
    Door.due("run of " + text, door.run(0, x, y), end);
    Door.due("output of " + text, door.output(), output);
    Door.due("result of " + text, door.result(), result);
    Door.due("turned " + text, door.isTurned(0, x, y), true);
    Door.due("sound " + text, door.isSound(), true);
    return door;
  }

  private static Sourcedoor body(String body, int x, int y, String output, String result) {
    return run(MAIN + body + " } }", x, y, output, result);
  }

  private static void outcome(Sourcedoor door, int... due) {
    for (int k = 0; k < due.length; k++) Door.due("outcome " + k + " of " + door.text(0), door.outcome(k), due[k]);
  }

  // ---- section 2: what may be there once or never, or any number of times, is not there at all

  private static void nothing() {
    Door.faults("package p ;");
    Door.faults("import p . @3 a ;");
    Door.faults("package p ; interface i { }");
    Door.faults("class a { }");
    Door.faults("class a { void f ( ) { } a ( ) { } }");
    Door.faults("class a { void f ( ) { f ( ) ; new a ( ) ; return ; } a ( ) { this ( 1 ) ; } a ( int x ) { super ( ) ; } }");
    Door.faults("class a { void f ( ) { try { } finally { } try { } catch ( Slip x ) { } } }");
    // ... but these have to be there.
    Door.faults("class a { void f ( ) { try { } @1 ; } }");
    Door.faults("class a extends @1 { }");
    Door.faults("class a implements @1 { }");
    Door.faults("class a implements b , @1 { }");
    Door.faults("interface a extends @1 { }");
    Door.faults("class a { void f ( ) throws @1 { } }");
    Door.faults("class a { void f ( ) throws Slip , @1 { } }");
    Door.faults("class a { void f ( int x , @1 ) { } }");
    Door.faults("class a { void f ( @1 , int x ) { } }");
    Door.faults("class a { int k = @1 ; }");
    Door.faults("class a { int k = f ( @1 , 1 ) ; }");
    Door.faults("class a { int k = f ( 1 , @1 ) ; }");
    Door.faults("class a { void f ( ) { int x = @1 ; } }");
    Door.faults("class a { void f ( ) { throw @1 ; } }");
    Door.faults("class a { void f ( ) { tell @1 ; } }");
    Door.faults("class a { void f ( ) { if ( @1 ) ; } }");
    Door.faults("class a { void f ( ) { while ( true ) @1 } }");
    Door.faults("class a { void f ( ) { if ( true ) ; else @1 } }");
    Door.faults("class a { void f ( ) { do while ( true ) ; @1 } }");
    Door.faults("class a { void f ( ) { do @1 } }");
  }

  // ---- section 2: the ninth "(" or "{" that is open, both counted together

  private static void nine() {
    // The class's { and the method's { are two of them.
    Door.faults("class a { void f ( ) { { { { { { { } } } } } } } }");
    Door.faults("class a { void f ( ) { { { { { { { @1 { } } } } } } } } }");
    Door.faults("class a { void f ( ) { tell ( ( ( ( ( ( 1 ) ) ) ) ) ) ; } }");
    Door.faults("class a { void f ( ) { tell ( ( ( ( ( ( @1 ( 1 ) ) ) ) ) ) ) ; } }");
    Door.faults("class a { void f ( ) { { { { tell ( ( ( 1 ) ) ) ; } } } } }");
    Door.faults("class a { void f ( ) { { { { tell ( ( ( @1 ( 1 ) ) ) ) ; } } } } }");
    Door.faults("class a { void f ( ) { { { { if ( ( ( true ) ) ) { { { } } } } } } } }");
    Door.faults("class a { void f ( ) { { { { if ( ( ( true ) ) ) { { { @1 { } } } } } } } } }");
    Door.faults("class a { int k = ( ( ( ( ( ( ( 1 ) ) ) ) ) ) ) ; }");
    Door.faults("class a { int k = ( ( ( ( ( ( ( @1 ( 1 ) ) ) ) ) ) ) ) ; }");
    // Calls, casts, new and PARAMS open as well; what is closed again does not count.
    Door.faults("class a { int f ( int x ) { return f ( f ( f ( f ( f ( f ( x ) ) ) ) ) ) ; } }");
    Door.faults("class a { int f ( int x ) { return f ( f ( f ( f ( f ( f ( f @1 ( x ) ) ) ) ) ) ) ; } }");
    Door.faults("class a { int k = ( ( ( ( ( ( ( int ) 1 ) ) ) ) ) ) ; }");
    Door.faults("class a { int k = ( ( ( ( ( ( ( @1 ( int ) 1 ) ) ) ) ) ) ) ; }");
    Door.faults("class a { Object k = ( ( ( ( ( ( new Slip ( ) ) ) ) ) ) ) ; }");
    Door.faults("class a { Object k = ( ( ( ( ( ( ( new Slip @1 ( ) ) ) ) ) ) ) ) ; }");
    Door.faults("class a { int k = ( ( ( ( ( ( 1 + ( 1 ) ) + ( 1 ) ) ) ) ) ) + ( 1 ) + ( 1 ) + ( 1 ) ; }");
    Door.faults("class a { void f ( ) { " + Door.times(20, "{ }") + Door.times(10, "if ( true ) { }") + "} }");
  }

  // ---- section 2: eight UNARIES right within one another are let

  private static void unaries() {
    Door.faults("class a { int k = " + Door.times(8, "-") + "1 ; }");
    Door.faults("class a { int k = " + Door.times(8, "-") + "@1 - 1 ; }");
    Door.faults("class a { boolean k = " + Door.times(8, "!") + "true ; }");
    Door.faults("class a { boolean k = " + Door.times(8, "!") + "@1 ! true ; }");
    Door.faults("class a { int k = " + Door.times(8, "( int )") + "1 ; }");
    Door.faults("class a { int k = " + Door.times(8, "( int )") + "@1 ( int ) 1 ; }");
    Door.faults("class a { Object k = " + Door.times(8, "( Object )") + "null ; }");
    Door.faults("class a { Object k = " + Door.times(8, "( Object )") + "@1 ( Object ) null ; }");
    Door.faults("class a { int k = " + Door.times(4, "- ( int )") + "1 ; }");
    Door.faults("class a { int k = " + Door.times(4, "- ( int )") + "@1 - 1 ; }");
    // Not right within it: in ( ), in ARGS, behind a sign.
    Door.faults("class a { int k = " + Door.times(8, "-") + "( " + Door.times(8, "-") + "1 ) ; }");
    Door.faults("class a { int k = " + Door.times(8, "-") + "( " + Door.times(8, "-") + "@1 - 1 ) ; }");
    Door.faults("class a { static int f ( int x ) { return - - - - - - - - f ( - - - - - - - - x ) ; } }");
    Door.faults("class a { int k = - - - - - - - - 1 - - - - - - - - - 1 * - - - - - - - - 1 ; }");
    Door.faults("class a { int k = true ? - - - - - - - - 1 : - - - - - - - - 1 ; }");
    // A REF in ( ) ahead of - is no cast, so no UNARY begins by it; but the - behind it is between two.
    Door.faults("class a { static int n ; int k = - - - - - - - - ( n ) - - - - - - - - - 1 ; }");
  }

  // ---- section 2: behind the REF of an instanceof stands no sign that binds tighter

  private static void instances() {
    for (String sign : new String[] {"+", "-", "*", "div", "%"}) {
      Sourcedoor door = Door.faults("class a { boolean b = null instanceof Object @1 " + sign + " 1 ; }");
      Door.due("types of " + door.text(0), door.ofUnit(0, 1), 0);
      Door.due("kind of the instanceof", door.kind(0, 7), "-");
      String text = "class a { boolean b ( Object x , boolean z ) { ";
      for (String ahead : new String[] {
        "return x instanceof a", "return ! z instanceof a", "return 1 + 2 instanceof a", "return z && x instanceof a", "return z == x instanceof a",
        "return 1 < x instanceof a", "return ( x instanceof a", "return b ( x instanceof a", "return z ? x instanceof a", "return z ? z : x instanceof a",
        "return x instanceof b instanceof a", "z = x instanceof a", "if ( x instanceof Slip",
      }) {
        Door.faults(text + ahead + " @1 " + sign + " 1 ; } }");
      }
      // With ( ) round it, or as what is right of the sign, it is FORM alone.
      Door.faults(text + "return ( x instanceof a ) @5 " + sign + " 1 ; } }");
      Door.faults(text + "return x instanceof a == ( 1 @5 " + sign + " ( x instanceof a ) ) ; } }");
      // What stands behind a looser sign may have one again.
      Door.faults(text + "return x instanceof a && 1 " + sign + " 1 < 2 ; } }");
      Door.faults(text + "return x instanceof a == 1 " + sign + " 1 < 2 ; } }");
      Door.faults(text + "return x instanceof a ? 1 " + sign + " 1 < 2 : z ; } }");
      Door.faults(text + "return b ( x instanceof a ? 1 : 1 " + sign + " 1 , z ) ; } }");
    }
    for (String sign : new String[] {"&&", "||", "==", "!="}) {
      Door.faults("class a { boolean b ( Object x , boolean z ) { return x instanceof a " + sign + " z ; } }");
    }
    for (String sign : new String[] {"<", "<="}) {
      Door.faults("class a { boolean b ( Object x , boolean z ) { return x instanceof a @5 " + sign + " 1 ; } }");
    }
    Door.faults("class a { boolean b ( Object x , boolean z ) { return x instanceof a @5 instanceof a ; } }");
    for (String behind : new String[] {". k ;", "( ) ;", "a ;", "1 ;", "this ;", "! z ;"}) {
      Door.faults("class a { boolean b ( Object x , boolean z ) { return x instanceof a @1 " + behind + " } }");
    }
  }

  // ---- section 2: what a cast to a REF is known by

  private static void casts() {
    String[] casts = {"( 1 )", "! true", "this", "super . h ( )", "new a ( )", "null", "true", "false", "5", "c", "f ( )"};
    for (String each : casts) {
      Sourcedoor door = Door.world("class a { Object c ; void f ( ) { tell ( Object ) " + each + " ; } }");
      Door.due("a cast ahead of " + each, door.faultAt(0, 16) == 1, false);
      Door.due("no fault of syntax ahead of " + each, door.ofUnit(0, 1), 1);
    }
    for (String each : new String[] {";", "- 1 ;", "+ 1 ;", ". c ;", ") ;", "instanceof a ;", "= 1 ;", "? 1 : 2 ;", "class", "int", "if"}) {
      String text = "class a { Object c ; void f ( ) { tell ( Object ) ";
      Door.faults(text + "@1 " + each + " } }");
    }
    for (String each : new String[] {"- 1", "+ 1", ". n", "== c", "instanceof a", "? 1 : 2", "= 1", "&& true", ""}) {
      Sourcedoor door = Door.world("class a { boolean c ; void f ( ) { tell ( c ) " + each + " ; } }");
      Door.due("no cast ahead of " + each, door.ofUnit(0, 1), 1);
      Door.due("its ( is no SIGN", door.kind(0, Door.place(door.text(0), "(", 1)), "-");
    }
    // KINDS that are no REFS may have a - behind them.
    for (String each : new String[] {"- 1", "( 1 )", "n", "1"}) {
      for (String kind : new String[] {"byte", "int", "long"}) {
        Sourcedoor door = Door.faults("class a { int n ; void f ( ) { tell ( " + kind + " ) " + each + " ; } }");
        Door.due("a cast", door.kind(0, Door.place(door.text(0), "(", 1)), kind);
      }
    }
  }

  // ---- section 2: where something is missing, the fault is behind the last TOKEN

  private static void behindTheLast() {
    String text = "package p ; import q . a ; abstract class b extends c implements d , e { static final int k = 1 ; int f ( int x ) throws g "
        + "{ if ( x < 1 ) return ( int ) - 1 ; else while ( true ) do break ; while ( ! false ) ; try { } catch ( Slip h ) { } finally { "
        + "int y = 1 ; } throw new Slip ( ) ; } abstract void g ( ) ; b ( ) { super ( ) ; } }";
    Sourcedoor door = Door.world(text);
    int many = door.ofUnit(0, 0);
    Door.due("no fault of syntax", door.ofUnit(0, 1), 1);
    for (int left = many - 1; left > 0; left--) {
      door.cut(0, 1);
      boolean ends = left == 3 || left == 8;
      Door.due("so many tokens of it: " + left, door.fault(0, 0, 0) == 1 ? door.faults(0) : "", ends ? "" : "1@" + left);
    }
    door.cut(0, 1);
    Door.due("nothing of it", door.faults(0), "");
  }

  // ---- section 4: a CONSTANT int from -128 to 127 fits a byte

  private static void smallBytes() {
    Door.faults("class a { byte k = - 128 ; byte n = 127 ; static byte m = 0 ; byte @5 o = - 129 ; byte @5 p = 128 ; static byte @5 q = 128 ; }");
    Door.faults("interface a { byte k = - 128 ; byte n = 127 ; byte @5 o = - 129 ; byte @5 p = 128 ; }");
    Door.body("byte z = - 128 ; byte w = 127 ; byte @5 v = - 129 ; byte @5 u = 128 ; z = 127 ; z = - 128 ; z @5 = 128 ; z @5 = - 129 ;");
    Door.faults("class a { byte f ( ) { return 127 ; } byte g ( ) { return - 128 ; } byte h ( ) { @5 return 128 ; } byte i ( ) { @5 return - 129 ; } }");
    Door.body("byte z = 0 ; byte w = x < 1 ? z : 127 ; w = x < 1 ? - 128 : z ; w @5 = x < 1 ? z : 128 ; w @5 = x < 1 ? - 129 : z ;");
    // Just of the TYPE int, and CONSTANT; not as an ARG.
    Door.body("byte @5 z = ( long ) 1 ; byte w = ( byte ) 300 ; byte @5 v = x ; byte u = ( int ) ( long ) 5 ; byte @5 t = true ; byte @5 s = null ;");
    Door.faults("class a { void f ( byte x ) { } void g ( ) { @5 f ( 127 ) ; f ( ( byte ) 127 ) ; } a ( byte x ) { } Object h ( ) { return @5 new a ( 0 ) ; } }");
    Sourcedoor door = Door.faults("class a { static final byte k = 127 ; static final byte n = - 128 ; int f ( ) { return k + 1 + n ; } }");
    Door.due("its value", door.value(0, Door.place(door.text(0), "+", 1)), "0");
    Door.due("its part", door.value(0, Door.place(door.text(0), "+", 0)), "128");
    // The numbers' ends.
    Door.faults("class a { int k = 0 ; int n = 9999 ; }");
  }

  // ---- section 4 and 6: INTS wrap around

  private static void wrapping() {
    String max = "( 9999 * 9999 * 21 + 4879 * 9999 + 1246 )";
    String[] ints = {
      "( byte ) 127", "127", "( byte ) 128", "-128", "( byte ) 255", "-1", "( byte ) 256", "0", "( byte ) - 128", "-128", "( byte ) - 129", "127",
      "( byte ) ( long ) 383", "127", "- ( byte ) 128", "128", "( byte ) - ( byte ) 128", "-128",
    };
    for (int k = 0; k < ints.length; k += 2) {
      Sourcedoor door = Door.faults("class a { static final long c = " + ints[k] + " ; static long M ( int x , int y ) { return c + x ; } }");
      Door.due("value of " + ints[k], door.value(0, Door.place(door.text(0), "c", 1)), ints[k + 1]);
      door.run(0, 0, 0);
      Door.due("result of " + ints[k], door.result(), ints[k + 1]);
    }
    // By running and by folding alike.
    String[] signs = {"+", "-", "*", "div", "%", "<", "<=", "==", "!="};
    int[] numbers = {Integer.MIN_VALUE, Integer.MIN_VALUE + 1, -7, -2, -1, 0, 1, 2, 7, Integer.MAX_VALUE};
    for (String sign : signs) {
      boolean tells = sign.equals("<") || sign.equals("<=") || sign.equals("==") || sign.equals("!=");
      Sourcedoor door = Door.faults("class a { static " + (tells ? "boolean" : "int") + " M ( int x , int y ) { return x " + sign + " y ; } }",
          "class b { static " + (tells ? "boolean" : "long") + " M ( int x , int y ) { return ( long ) x " + sign + " y ; } }");
      for (int x : numbers) {
        for (int y : numbers) {
          boolean divides = sign.equals("div") || sign.equals("%");
          Door.due("run " + x + sign + y, door.run(0, x, y), divides && y == 0 ? 0 : 1);
          Door.due("result of " + x + sign + y, door.result(), divides && y == 0 ? "Divide" : "" + asInts(sign, x, y));
          door.run(1, x, y);
          Door.due("result of long " + x + sign + y, door.result(), divides && y == 0 ? "Divide" : "" + asLongs(sign, x, y));
        }
      }
    }
    Sourcedoor door = Door.faults("class a { static long M ( int x , int y ) { long z = x ; z = z * x * x ; tell z ; z += z ; tell z ; z += z ; tell z ; "
        + "tell - z ; tell z div - 1 ; tell ( int ) z ; tell ( byte ) z ; return z - 1 ; } }");
    door.run(0, 1 << 21, 0);
    long z = 1L << 63;
    Door.due("told of the least long", door.output(), z + " 0 0 0 0 0 0");
    Door.due("the result behind it", door.result(), "-1");
    Sourcedoor least = Door.faults("class a { static long M ( int x , int y ) { long z = ( long ) x * 2 * x * x * x ; tell z ; tell - z ; tell z div - 1 ; "
        + "tell z % - 1 ; tell z - 1 ; tell z + z ; tell z < z - 1 ; return z * - 1 ; } }");
    least.run(0, -(1 << 15), 0);
    Door.due("a long", least.output().startsWith("2305843009213693952 "), true);
    least.run(0, 46341, 0);
    Door.due("one that wrapped", least.told(0), "" + 46341L * 2 * 46341 * 46341 * 46341);
    // What is folded is just what running tells.
    Sourcedoor folds = Door.faults("class a { static final int k = 9999 * 9999 * 9999 * 9999 ; static final long l = ( long ) 9999 * 9999 * 9999 * 9999 * 9999 ; "
        + "static long M ( int x , int y ) { x = 9999 ; long z = x ; tell k == x * x * x * x ; tell l == z * x * x * x * x ; tell l == z * z * z * z * z ; "
        + "tell k ; tell l ; return - l ; } }");
    folds.run(0, 0, 0);
    Door.due("folded", folds.output(), "true true true " + 9999 * 9999 * 9999 * 9999 + " " + 9999L * 9999 * 9999 * 9999 * 9999);
    Door.due("its result", folds.result(), "" + -(9999L * 9999 * 9999 * 9999 * 9999));
    Door.due("sound", folds.isSound(), true);
    Door.due("the largest int needs no sign", Door.world("class a { int k = " + max + " ; }").faults(0), "");
    body("byte z = 127 ; z += 1 ; tell z ; z += - 1 ; tell z ; z += 256 ; tell z ; long w = z ; z += w ; tell z ; int v = x ; v += 1 ; tell v ; return v ;",
        Integer.MAX_VALUE, 0, "-128 127 127 -2 " + Integer.MIN_VALUE, "" + Integer.MIN_VALUE);
    body("int z = x ; long w = z ; z += w + w ; tell z ; w += w ; tell w ; return ( byte ) w ;", Integer.MAX_VALUE, 0, "2147483645 4294967294", "-2");
  }

  private static Object asInts(String sign, int x, int y) {
    switch (sign) {
      case "+": return x + y;
      case "-": return x - y;
      case "*": return x * y;
      case "div": return x / y;
      case "%": return x % y;
      case "<": return x < y;
      case "<=": return x <= y;
      case "==": return x == y;
      default: return x != y;
    }
  }

  private static Object asLongs(String sign, long x, long y) {
    switch (sign) {
      case "+": return x + y;
      case "-": return x - y;
      case "*": return x * y;
      case "div": return x / y;
      case "%": return x % y;
      case "<": return x < y;
      case "<=": return x <= y;
      case "==": return x == y;
      default: return x != y;
    }
  }

  // ---- section 4: what divides by 0 is not CONSTANT, and throws as it is run

  private static void divisors() {
    for (String zero : new String[] {"0", "( long ) 0", "( byte ) 256", "( 1 - 1 )", "- 0", "c"}) {
      for (String sign : new String[] {"div", "%"}) {
        Sourcedoor door = Door.faults("class a { static final int c = 0 ; static void M ( int x , int y ) { tell 0 " + sign + " " + zero + " ; } }");
        Door.due("no value by " + zero, door.value(0, Door.place(door.text(0), sign, 0)), "-");
        Door.due("but a type", door.kind(0, Door.place(door.text(0), sign, 0)), zero.equals("( long ) 0") ? "long" : "int");
        Door.due("thrown", door.run(0, 0, 0), 0);
        Door.due("Divide", door.result() + door.outcome(5) + door.outcome(6), "Divide11");
      }
    }
    // It is not CONSTANT either, where it does not count.
    String[] folded = {"false && 1 div 0 == 1", "&&", "true || 1 % 0 == 1", "||", "true ? true : 1 div 0 == 1", "?", "! ( false && 1 div 0 == 1 )", "!"};
    for (int k = 0; k < folded.length; k += 2) {
      Sourcedoor door = Door.faults("class a { static void M ( int x , int y ) { while ( " + folded[k] + " ) { x += 1 ; break ; } tell x ; } }");
      int at = Door.place(door.text(0), folded[k + 1], 0);
      Door.due("a boolean without a value", door.kind(0, at) + door.value(0, at), "boolean-");
      Door.due("runs", door.run(0, 0, 0), 1);
    }
  }

  // ---- section 6: 2000 STEPS are let, the 2001st is not

  private static void steps() {
    // M, while, its EXPR x + 1 times, what stands in it x times, if, perhaps ; and return.
    String loop = "while ( 0 < x ) x += - 1 ; if ( y == 1 ) ; return 7 ;";
    outcome(body(loop, 997, 0, "", "7"), 1, 0, 1999, 1, 1, 0, 0);
    outcome(body(loop, 997, 1, "", "7"), 1, 0, 2000, 1, 1, 0, 0);
    outcome(body(loop, 998, 0, "", "LONG"), 2, 0, 2000, 1, 1, 0, 0);
    outcome(body(loop, 998, 1, "", "LONG"), 2, 0, 2000, 1, 1, 0, 0);
    outcome(body(loop, 5000, 1, "", "LONG"), 2, 0, 2000, 1, 1, 0, 0);
    // 2 * x + 3 STEPS are ahead of what stands behind the while.
    String count = "while ( 0 < x ) x += - 1 ; ";
    outcome(body(count + "tell 1 ; return 1 ;", 998, 0, "1", "LONG"), 2, 1, 2000, 1, 1, 0, 0);
    outcome(body(count + "; tell 1 ; return 1 ;", 998, 0, "", "LONG"), 2, 0, 2000, 1, 1, 0, 0);
    outcome(body(count + "; int z = 1 div 0 ; return 1 ;", 998, 0, "", "LONG"), 2, 0, 2000, 1, 1, 0, 0);
    outcome(body(count + "try { return 1 ; } finally { tell 2 ; }", 998, 0, "", "LONG"), 2, 0, 2000, 1, 1, 0, 0);
    outcome(body(count + "do ; while ( 1 div 0 == 1 ) ; return 1 ;", 998, 0, "", "LONG"), 2, 0, 2000, 1, 1, 0, 0);
    // BLOCKS are none: so many of them change nothing.
    outcome(body(count + "{ { { } } } { } { return 1 ; }", 998, 0, "", "1"), 1, 0, 2000, 1, 1, 0, 0);
    // A CALL is one; so is one of a class without a CONSTRUCTOR, but none of a KNOWN one.
    String calls = "class b { } class a { static int f ( ) { return 5 ; } static int M ( int x , int y ) { while ( 0 < x ) x += - 1 ; ";
    outcome(run(calls + "return f ( ) ; } }", 997, 0, "", "5"), 1, 0, 2000, 2, 2, 0, 0);
    outcome(run(calls + "; return f ( ) ; } }", 997, 0, "", "LONG"), 2, 0, 2000, 2, 2, 0, 0);
    outcome(run(calls + "return f ( ) ; } }", 998, 0, "", "LONG"), 2, 0, 2000, 1, 1, 0, 0);
    outcome(run(calls + "new b ( ) ; ; return 1 ; } }", 997, 0, "", "LONG"), 2, 0, 2000, 2, 2, 1, 0);
    outcome(run(calls + "new Slip ( ) ; ; return 1 ; } }", 997, 0, "", "1"), 1, 0, 2000, 1, 1, 1, 0);
    outcome(run(calls + "new b ( ) ; return 1 ; } }", 998, 0, "", "LONG"), 2, 0, 2000, 1, 1, 1, 0);
  }

  // ---- section 6: 24 CALLS may be under way, a 25th may not

  private static void calls() {
    String down = "class a { static int f ( int x ) { if ( x < 2 ) return 1 ; return f ( x - 1 ) + 1 ; } static int M ( int x , int y ) { return f ( x ) + f ( x ) ; } }";
    outcome(run(down, 1, 0, "", "2"), 1, 0, 8, 3, 2, 0, 0);
    outcome(run(down, 23, 0, "", "46"), 1, 0, 2 + 46 * 3, 47, 24, 0, 0);
    outcome(run(down, 24, 0, "", "DEEP"), 2, 0, 2 + 23 * 3, 24, 24, 0, 0);
    // CONSTRUCTORS: a chain of 23 classes below Object is let, as M is one CALL.
    StringBuilder classes = new StringBuilder("class a { static int M ( int x , int y ) { if ( x == 1 ) new v ( ) ; else new w ( ) ; return 1 ; } } ");
    classes.append("class A { } ");
    for (int k = 0; k < 23; k++) classes.append("class ").append((char) ('b' + k)).append(" extends ").append(k == 0 ? 'A' : (char) ('a' + k)).append(" { } ");
    Sourcedoor door = Door.faults(classes.toString());
    // A, b to v: 22 of them; to w 23; to x 24.
    door.run(0, 1, 0);
    Door.due("22 of them", door.result() + door.outcome(4), "123");
    door.run(0, 2, 0);
    Door.due("23 of them", door.result() + door.outcome(4), "124");
    door.change(0, Door.place(door.text(0), "w", 0), 123);
    door.run(0, 2, 0);
    Door.due("24 of them", door.result() + door.outcome(4) + "/" + door.outcome(5), "DEEP24/1");
    // Above the classes there is a KNOWN one: its CONSTRUCTOR is no CALL.
    door.change(0, Door.place(door.text(0), "new", 1) + 1, 122);
    door.insert(0, Door.place(door.text(0), "A", 0) + 1, 5);
    door.insert(0, Door.place(door.text(0), "A", 0) + 2, 63);
    door.run(0, 2, 0);
    Door.due("below Cast", door.result() + door.outcome(4), "124");
    // FIELDS that are static get theirs ahead of M, which is not under way then.
    String before = "class a { static int k = f ( %d ) ; static int f ( int x ) { if ( x < 2 ) return 1 ; return f ( x - 1 ) + 1 ; } static int M ( int x , int y ) { tell 1 ; return k ; } }";
    outcome(run(before.replace("%d", "24"), 0, 0, "1", "24"), 1, 1, 24 * 3 - 1 + 1 - 24 + 24 + 3, 25, 24, 0, 0);
    outcome(run(before.replace("%d", "25"), 0, 0, "", "DEEP"), 2, 0, 24 * 3, 24, 24, 0, 0);
  }

  // ---- section 6: 60 things may be told

  private static void tells() {
    String text = "while ( 0 < x ) { tell x ; x += - 1 ; } return 1 ;";
    Door.due("59", body(text, 59, 0, down(59), "1").outcome(1), 59);
    Door.due("60", body(text, 60, 0, down(60), "1").outcome(1), 60);
    Sourcedoor door = body(text, 61, 0, down(61).substring(0, down(61).lastIndexOf(' ')), "FULL");
    outcome(door, 2, 60, 2 + 60 * 3 + 2, 1, 1, 0, 0);
    // The EXPR of the 61st is come to: its CALLS are begun, what it throws is thrown.
    String more = "class a { static int f ( int x ) { return x ; } static int M ( int x , int y ) { while ( 0 < x ) { tell x ; x += - 1 ; } ";
    outcome(run(more + "tell f ( 1 ) ; return 1 ; } }", 60, 0, down(60), "FULL"), 2, 60, 2 + 60 * 3 + 1 + 1 + 2, 2, 2, 0, 0);
    Sourcedoor thrown = Door.faults(more + "tell 1 div y ; return 1 ; } }");
    thrown.run(0, 60, 0);
    Door.due("thrown ahead of the 61st", thrown.result(), "Divide");
    thrown.run(0, 60, 1);
    Door.due("told as the 61st", thrown.result(), "FULL");
    thrown.run(0, 59, 1);
    Door.due("told as the 60th", thrown.result() + thrown.told(59), "11");
  }

  private static String down(int from) {
    StringBuilder text = new StringBuilder();
    for (int k = from; k > 0; k--) text.append(k == from ? "" : " ").append(k);
    return text.toString();
  }

  // ---- section 6: no catch and no finally is run then

  private static void stopped() {
    String head = "class a { static int f ( ) { return f ( ) ; } static int M ( int x , int y ) { try { try { ";
    String tail = " } catch ( Throw z ) { tell 1 ; return 2 ; } finally { tell 3 ; } } finally { tell 4 ; } return 5 ; } }";
    outcome(run(head + "f ( ) ;" + tail, 0, 0, "", "DEEP"), 2, 0, 1 + 3 + 46, 24, 24, 0, 0);
    outcome(run(head + "do ; while ( x == 0 ) ;" + tail, 0, 0, "", "LONG"), 2, 0, 2000, 1, 1, 0, 0);
    run(head + "do tell x ; while ( x == 0 ) ;" + tail, 0, 0, Door.times(60, "0").trim(), "FULL");
    // In a finally that is run as something was thrown, too.
    run("class a { static int M ( int x , int y ) { try { throw new Slip ( ) ; } finally { while ( x == 0 ) ; } } }", 0, 0, "", "LONG");
  }

  // ---- texts that have as much of one thing as a UNIT may hold

  private static void fullTexts() {
    Sourcedoor door = new Sourcedoor();
    for (int unit = 0; unit < 4; unit++) {
      Door.type(door, unit, "package " + (char) ('a' + unit) + " ; " + Door.times(59, "class a { }"));
      Door.due("full of classes", door.ofUnit(unit, 1) * 1000 + door.ofUnit(unit, 2), 59058);
    }
    door = Door.world("class a { " + Door.times(78, "int k ;") + "}");
    Door.due("full of fields", door.own(0, 0) + door.ofUnit(0, 2), "k:int77");
    StringBuilder params = new StringBuilder("int a");
    for (int k = 1; k < 75; k++) params.append(" , int ").append((char) (k % 40 < 26 ? 'a' + k % 40 : 'A' + k % 40 - 26));
    door = Door.world("class A { void f ( " + params + " ) { ; } }");
    Door.due("full of params", door.ofUnit(0, 0) + "/" + door.ofUnit(0, 2), "235/35");
    Door.due("their signature", door.methods(0, 0), "f(" + Door.times(75, "int").trim().replace(' ', ',') + ")");
    StringBuilder locals = new StringBuilder();
    for (int k = 0; k < 40; k++) locals.append("int ").append((char) (k < 26 ? 'a' + k : 'A' + k - 26)).append(" = ").append(k).append(" ; ");
    door = Door.faults("class a { static void M ( int x , int y ) { } static void f ( ) { " + locals + "} }");
    Door.due("a local of each name", door.isSet(0, Door.place(door.text(0), "N", 0) - 1, 38), 1);
    StringBuilder sum = new StringBuilder("1");
    for (int k = 1; k < 116; k++) sum.append(" + 1");
    door = Door.faults("class a { int k = " + sum + " ; }");
    Door.due("a long sum", door.value(0, 235), "116");
    door = Door.faults("class a { int k = " + Door.times(57, "true ? 1 :").trim() + " 2 ; }");
    Door.due("a long choice", door.value(0, 7), "1");
    door = Door.faults("class a { static void M ( int x , int y ) { int z ; tell " + Door.times(55, "z =") + "x ; } }");
    door.run(0, 5, 0);
    Door.due("a long assignment", door.output(), "5");
    door = Door.faults("class a { a n ; static void M ( int x , int y ) { a z = new a ( ) ; z . n = z ; tell z" + Door.times(60, " . n") + " ; } }");
    door.run(0, 5, 0);
    Door.due("a long way", door.output(), "a");
    door = Door.faults("class a { static void M ( int x , int y ) { " + Door.times(50, "tell x ;") + "} }");
    door.run(0, 5, 0);
    Door.due("a long row", door.output(), Door.times(50, "5").trim());
    door = Door.world("interface a { " + Door.times(47, "void f ( ) ;") + "}");
    Door.due("full of methods", door.methods(0, 0) + door.ofUnit(0, 2), "abstract f()46");
    // As many METHODS OF many TYPES as there may be.
    StringBuilder slots = new StringBuilder("interface a { ");
    for (int k = 0; k < 40; k++) slots.append("void ").append((char) (k < 26 ? 'a' + k : 'A' + k - 26)).append(" ( ) ; ");
    StringBuilder others = new StringBuilder("interface b extends a { ");
    for (int k = 0; k < 33; k++) others.append("void ").append((char) (k < 26 ? 'a' + k : 'A' + k - 26)).append(" ( int x ) ; ");
    door = Door.world(slots + "} " + "interface c { } ", others + "}", Door.times(40, "interface d extends b { }"), Door.times(40, "interface d extends b { }"));
    Door.due("methods of the last one", door.ofType(3, 39, 3), 73);
    Door.due("all abstract", door.ofType(3, 39, 4), 73);
    Door.due("faults", door.ofUnit(2, 2) + door.ofUnit(3, 2), 79);
    Door.due("subtypes", door.subtypes(0, 0).split(" ").length, 81);
  }

  // ---- as many TYPES as a WORLD may have: each of those that others stand below is found, wherever it is among them

  private static void manyTypes() {
    String[] texts = new String[4];
    for (int unit = 0; unit < 4; unit++) {
      // In the package of a unit of its own: 40 classes, each below the one ahead but every fourth one.
      StringBuilder text = new StringBuilder("package " + (char) ('a' + unit) + " ; ");
      for (int k = 0; k < 39; k++) {
        text.append("class ").append((char) (k < 26 ? 'a' + k : 'A' + k - 26));
        if (k % 4 != 0) text.append(" extends ").append((char) (k - 1 < 26 ? 'a' + k - 1 : 'A' + k - 27));
        text.append(" { } ");
      }
      texts[unit] = text.append("class a { } ").toString();
    }
    Sourcedoor door = Door.world(texts);
    Door.due("types of all", door.house(1), 160);
    Door.due("faults of all", door.house(2), 4);
    for (int unit = 0; unit < 4; unit++) {
      for (int k = 0; k < 39; k++) {
        String due = "";
        for (int m = 0; m < 39; m++) {
          boolean isBelow = m / 4 == k / 4 && k <= m;
          Door.due("below " + unit + " " + k + " " + m, door.isSubtype(unit, m, unit, k), isBelow);
          if (isBelow && m != k) due += (due.isEmpty() ? "" : " ") + (char) ('a' + unit) + "." + (char) (m < 26 ? 'a' + m : 'A' + m - 26);
        }
        Door.due("subtypes " + unit + " " + k, door.subtypes(unit, k), due);
      }
      Door.due("no subtype of another unit's", door.isSubtype(unit, 1, (unit + 1) % 4, 0), false);
    }
    String last = Door.times(29, "class z { }") + "class a { } class b extends a { } class c extends b { } class d extends c { } "
        + Door.times(6, "class y { }") + "class e extends d { } class f extends e { } class g extends f { } class h extends g { }";
    door = Door.world(Door.times(60, "class z { }"), Door.times(60, "class z { }"), Door.times(60, "class z { }"), last);
    Door.due("the last one's subtypes", door.subtypes(3, 29), "b c d e f g h");
    Door.due("of all types", door.house(1), 180 + 43);
    Door.due("the last of all", door.isSubtype(3, 42, 3, 29), true);
    Door.due("not the other way round", door.isSubtype(3, 29, 3, 42), false);
    Door.due("nor beside it", door.isSubtype(3, 42, 3, 35), false);
    Door.due("above it", door.above(3, 42), "g");
    // A ring of the last ones: e extends h now.
    door.change(3, Door.place(door.text(3), "e", 0) + 2, 107);
    Door.due("a ring", door.isSubtype(3, 40, 3, 41), false);
    Door.due("all that are in it", door.house(2), 179 + 29 + 5 + 4);
    Door.due("what stands above then", door.above(3, 39) + door.subtypes(3, 39), "Object");
  }

  // ---- texts in which as much stands within one another as a UNIT may hold

  private static void deepTexts() {
    Sourcedoor door = Door.faults("class a { static int M ( int x , int y ) { " + Door.times(36, "if ( 0 < x )").trim() + " return 1 ; return 2 ; } }");
    door.run(0, 1, 0);
    Door.due("ifs", door.result() + "/" + door.outcome(2), "1/38");
    door.run(0, 0, 0);
    Door.due("ifs that are not so", door.result() + "/" + door.outcome(2), "2/3");
    door = Door.faults("class a { static int M ( int x , int y ) { " + Door.times(36, "do").trim() + " x += 1 ; " + Door.times(36, "while ( false ) ;")
        + "return x ; } }");
    door.run(0, 1, 0);
    Door.due("dos", door.result() + "/" + door.outcome(2), "2/" + (1 + 36 + 1 + 36 + 1));
    door = Door.faults("class a { static int M ( int x , int y ) { " + Door.times(27, "if ( x == 1 ) ; else") + "; return x ; } }");
    door.run(0, 2, 0);
    Door.due("elses", door.result() + "/" + door.outcome(2), "2/" + (1 + 27 + 1 + 1));
    door = Door.world("class a { void f ( ) { " + Door.times(232, "do"));
    Door.due("as many dos as there may be", door.faults(0), "1@240");
    door = Door.faults("class a { static int M ( int x , int y ) { " + Door.times(36, "while ( x == 1 )").trim() + " return 3 ; return 2 ; } }");
    door.run(0, 1, 0);
    Door.due("whiles", door.result() + "/" + door.outcome(2), "3/" + (1 + 36 * 2 + 1));
    door = Door.faults("class a { static int M ( int x , int y ) { try { try { try { try { try { try { return x ; } finally { tell 1 ; } } finally { tell 2 ; } } "
        + "finally { tell 3 ; } } finally { tell 4 ; } } finally { tell 5 ; } } finally { tell 6 ; } } }");
    door.run(0, 9, 0);
    Door.due("tries", door.output() + "/" + door.result(), "1 2 3 4 5 6/9");
    door = Door.faults("class a { static int f ( int x , int y ) { return x + y ; } static int M ( int x , int y ) { return f ( 1 , f ( 2 , f ( 3 , f ( 4 , f ( 5 , "
        + "f ( 6 , 7 ) ) ) ) ) ) ; } }");
    door.run(0, 9, 0);
    Door.due("calls in calls", door.result() + "/" + door.outcome(4), "28/2");
  }
}
