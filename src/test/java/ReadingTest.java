import java.util.ArrayList;
import java.util.List;

/** All answers of the class against a second reading of the document (see Reading), of known worlds changed at random. */
public final class ReadingTest {
  static final String[][] WORLDS = {
    {"class a { static int f ( int x ) { return x + 1 ; } static int f ( long x ) { return 2 ; } static int f ( Object x ) { return 3 ; } static "
        + "int M ( int x , int y ) { byte b = 5 ; Integer i = x ; tell f ( b ) ; tell f ( i ) ; tell f ( x + ( long ) y ) ; return f ( null ) ; } }"},
    {"interface s { int k = 2 ; int v ( int n ) ; } abstract class t implements s { int d ; t ( int d ) { this . d = d ; } int w ( ) { return v ( d ) "
        + "* k ; } } class u extends t { u ( ) { super ( 3 ) ; } int v ( int n ) { return n + d ; } }",
      "class c { static int M ( int x , int y ) { t z = new u ( ) ; z . d = x ; tell z . w ( ) ; s q = z ; tell q . v ( y ) ; return ( ( u ) q ) . d ; } }"},
    {"class e extends Throw { int n ; e ( int n ) { this . n = n ; } } class g { static int h ( int x ) throws e { if ( x < 0 ) throw new e ( x ) ; "
        + "return 10 div x ; } static int M ( int x , int y ) { int r ; try { r = h ( x ) ; tell r ; } catch ( e p ) { r = p . n ; } catch ( Divide p ) "
        + "{ r = 0 ; } finally { tell y ; } return r ; } }"},
    {"class l { static final int n = 2 * 3 ; static int M ( int x , int y ) { int s ; if ( x < y && y < n ) s = x ; else { s = 0 ; while ( true ) { s "
        + "+= y ; if ( n < s ) break ; } } byte b = n ; b += s ; tell b ; return s ; } }"},
    {"package p ; interface i { int f ( int x ) throws Throw ; } abstract class a implements i { int d = 3 ; int g ( a z ) { return z . d ; } }",
      "package q ; import p . a ; import p . i ; class b extends a { int d = 5 ; int f ( int x ) { return d - ( ( a ) this ) . d + x ; } static int M ( "
        + "int x , int y ) { i z = new b ( ) ; try { return z . f ( x ) ; } catch ( Throw t ) { return y ; } } }"},
    {"class a { int n ; a ( int n ) { this ( n , 2 ) ; } a ( int n , int k ) { this . n = n * k ; } int v ( ) { return n ; } } class b extends a { int "
        + "m = n + 1 ; b ( ) { super ( 4 ) ; m += v ( ) ; } int v ( ) { return m * 10 + super . v ( ) ; } static int M ( int x , int y ) { a z = x < 0 ? "
        + "null : x == 0 ? new a ( 3 ) : new b ( ) ; tell z instanceof b ; return z . v ( ) ; } }"},
    {"class a { static int k = n + 1 ; static int n = 5 ; static final int m = b . c + 1 ; static final byte w = - 128 ; boolean u ; Object o = m ; "
        + "static int M ( int x , int y ) { a z = new a ( ) ; tell k ; tell w ; tell m ; tell z . u ; tell z . o ; return b . c ; } }",
      "class b { static final int c = a . w + 7 ; int k = c ; final long l = c ; static Integer f ( b z ) { return z == null ? null : z . k ; } }"},
    {"class a { static int f ( int x ) { return x < 2 ? x : f ( x - 1 ) + f ( x - 2 ) ; } static long M ( int x , int y ) { long s = 0 ; int k = 0 ; do "
        + "{ k += 1 ; if ( k == 3 ) continue ; if ( 8 < k || k == y ) break ; s += f ( k ) ; tell s ; } while ( s < 100 ) ; return s * k - y % ( x + 5 ) ; } }"},
    {"class e extends Throw { } class d extends e { } class a { a ( ) throws d { if ( k < 1 ) throw new d ( ) ; } int k = 1 ; static void f ( int x ) throws "
        + "e , d { try { if ( x == 1 ) throw new e ( ) ; new a ( ) . k = x ; } finally { tell x ; } } static void M ( int x , int y ) { while ( x < 4 ) try { "
        + "x += 1 ; f ( x ) ; if ( x == 2 ) break ; } catch ( d z ) { tell z ; } catch ( e z ) { tell 9 ; continue ; } finally { y += 1 ; } tell y ; } }"},
    {"class a { int k ; static int n ; void f ( int x , Object y ) { int z ; if ( x < 1 && ( z = 1 ) < 2 ) tell z ; else return ; int w ; while ( x < 3 || "
        + "( w = 1 ) < 2 ) { x += 1 ; if ( y == this ) continue ; z += x ; } boolean v = ! ( y instanceof a ) ; tell v ? w : z ; final boolean u = true ; "
        + "do { int t ; try { t = 1 ; } catch ( Slip s ) { t = 2 ; } tell t ; if ( v ) break ; } while ( u ) ; } }"},
    {"class a { Integer i = 1 ; long l = 5 ; byte b ; Object o ; int f ( Integer x , long y ) { i = x ; o = y == l ? i : 2 ; b += y ; return x == i ? - b : ( "
        + "byte ) y ; } int f ( int x , Object y ) { return x + 7 ; } static int M ( int x , int y ) { a z = new a ( ) ; tell z . f ( z . i , y ) ; tell z . o ; "
        + "tell ( Integer ) z . o == z . i ; Object q = z . o ; return ( int ) ( Integer ) q * 2 ; } }"},
    {"interface i { int k = 1 ; void f ( ) ; } interface j extends i { int n = k + 1 ; Object g ( i x ) ; } class a implements j { int k = n ; "
        + "void f ( ) { k += j . n ; } a g ( i x ) { x . f ( ) ; return ( a ) x ; } static int M ( int x , int y ) { i z = x == 0 ? null : "
        + "new a ( ) ; j w = new a ( ) ; tell w . g ( z ) == z ; return new a ( ) . g ( z ) . k ; } }"},
    {"class a { static a h ; int k ; a n ; a ( int k , a n ) { this . k = k ; this . n = n ; h = this ; } static int M ( int x , int y ) { a z = null ; while ( "
        + "0 < x ) { z = new a ( x , z ) ; x += - 1 ; } int s = y ; while ( z != null ) { s += z . k ; z = z . n ; } h . k = s ; return h . n . k + h . k ; } }"},
    {"package p ; import q . c ; class a extends c { static int f ( c x ) { return x . k ; } int g ( ) { return super . g ( ) + k + c . m ; } }",
      "package q ; import p . a ; class c { int k = 4 ; static final int m = 7 ; c o ; int g ( ) { return m ; } static int M ( int x , int y ) { c z = new a ( ) ; "
        + "z . o = z ; z . o . o . k += x ; return z . g ( ) + a . f ( z ) ; } }",
      "package p ; class b { a z ; Object f ( a x ) { return x . o == z ? ( Object ) x : z ; } }"},
    {"class a { static boolean f ( int x ) { tell x ; return x < 2 ; } static boolean M ( int x , int y ) { boolean z = f ( x ) && f ( y ) || ! f ( 1 ) ; { int w = "
        + "z ? 1 : 2 ; { tell w ; } } if ( z ) if ( f ( 3 ) ) return true ; else ; else { z = f ( x = 0 ) == f ( x + 1 ) ; } return z != ( x == y ) ; } }"},
    {"class a { void f ( ) { return ; } int g ( int x ) { while ( true ) { try { if ( x < 1 ) return x ; x += - 1 ; } finally { if ( x == 5 ) break ; } } { return 3 ; } } "
        + "int h ( ) { do { try { throw null ; } catch ( Null z ) { continue ; } finally { ; } } while ( true ) ; } static int M ( int x , int y ) { return new a ( ) . "
        + "g ( x ) ; } }"},
  };
  private static final String[][] LIKE = {
    {"a", "b", "c", "d", "e", "f", "g", "h", "i", "j", "k", "m", "n", "o", "p", "q", "s", "t", "u", "v", "w", "x", "y", "z", "M"},
    {"x", "y", "z", "k", "0", "1", "2", "127", "128", "true", "false", "null", "this"},
    {"boolean", "byte", "int", "long", "Object", "Integer", "Throw", "Slip", "a", "b", "e"},
    {"+", "-", "*", "div", "%", "<", "<=", "==", "!=", "&&", "||", "=", "+="}, {"break", "continue", "return"}, {"return", "throw", "tell"}, {"if", "while"},
    {"Throw", "Slip", "Divide", "Null", "Cast", "e", "d"}, {"extends", "implements"}, {"class", "interface"}, {"-", "!"}, {"static", "final", "abstract"},
  };
  private static final int[][] ARGUMENTS = {{3, 2}, {0, -1}, {-5, 7}, {1, Integer.MIN_VALUE}};
  private static final int ROUNDS = 1500;
  private static long seed = 20261119;
  static int well;

  public static void main(String[] args) {
    for (String[] world : WORLDS) compare(world);
    Door.due("the known worlds are well", well, WORLDS.length);
    for (int round = 0; round < ROUNDS; round++) {
      String[] world = WORLDS[random(WORLDS.length)].clone();
      int unit = random(world.length);
      List<String> words = new ArrayList<>(Door.plain(world[unit]));
      for (int k = random(3); k >= 0 && !words.isEmpty(); k--) mix(words);
      while (words.size() > 240) words.remove(words.size() - 1);
      world[unit] = String.join(" ", words);
      compare(world);
    }
    Door.due("some worlds are well, some are not", well > ROUNDS / 20 && well < ROUNDS / 2, true);
    Door.end();
  }

  private static int random(int below) {
    seed = seed * 6364136223846793005L + 1442695040888963407L;
    return (int) ((seed >>> 33) % below);
  }

  static void mix(List<String> words) {
    int at = random(words.size());
    switch (random(8)) {
      case 0:
        words.remove(at);
        break;
      case 1:
        words.add(at, words.get(random(words.size())));
        break;
      case 2:
        words.addAll(random(words.size()), new ArrayList<>(words.subList(at, Math.min(words.size(), at + random(9)))));
        break;
      default:
        putLike(words, at);
    }
  }

  /** Another word of the same sort takes the place of one. */
  private static void putLike(List<String> words, int from) {
    int sort = random(LIKE.length);
    for (int k = 0; k < words.size(); k++) {
      int at = (from + k) % words.size();
      if (!List.of(LIKE[sort]).contains(words.get(at))) continue;
      words.set(at, LIKE[sort][random(LIKE[sort].length)]);
      return;
    }
  }

  private static String[] world;

  private static void due(String what, Object got, Object want) {
    if (!got.equals(want)) Door.due(what + " of " + String.join(" | ", world), got, want);
  }

  static void compare(String[] texts) {
    world = texts;
    Sourcedoor door = Door.world(texts);
    Reading reading = new Reading(texts);
    if (reading.isWell()) well++;
    for (int unit = 0; unit < texts.length; unit++) {
      due("faults " + unit, door.faults(unit), reading.faults(unit));
      due("types " + unit, door.types(unit), reading.fulls(reading.typesOf(unit)));
      due("imports " + unit, door.imports(unit), reading.imports(unit));
      Reading.Member main = reading.mainOf(unit);
      due("main " + unit, door.main(unit), main == null ? -1 : main.at);
      List<Reading.Type> types = reading.typesOf(unit);
      for (int k = 0; k < types.size() && k < door.ofUnit(unit, 1); k++) compareType(door, reading, unit, k, types.get(k));
      due("items " + unit, door.items(unit), reading.stmts.get(unit).size());
      for (int place = 0; place < door.ofUnit(unit, 0); place++) comparePlace(door, reading, unit, place);
      if (reading.isWell()) compareRuns(door, reading, unit, main);
    }
    due("sound", door.isSound(), true);
  }

  private static void compareType(Sourcedoor door, Reading reading, int unit, int k, Reading.Type type) {
    for (int what = 0; what < 8; what++) due("ofType " + unit + " " + k + " " + what, door.ofType(unit, k, what), reading.ofType(type, what));
    due("above " + k, door.above(unit, k), reading.fulls(type.above));
    due("methods " + k, door.methods(unit, k), reading.methods(type));
    due("own " + k, door.own(unit, k), reading.own(type));
    due("constructors " + k, door.constructors(unit, k), reading.constructorsOf(type));
    due("subtypes " + k, door.subtypes(unit, k), reading.subtypes(type));
    for (int name = 0; name < 40; name++) due("field " + k + " " + nameOf(name), door.field(unit, k, name), reading.field(type, nameOf(name)));
  }

  private static String nameOf(int name) {
    return "" + (char) (name < 26 ? 'a' + name : 'A' + name - 26);
  }

  private static void comparePlace(Sourcedoor door, Reading reading, int unit, int place) {
    String there = " " + unit + "@" + place;
    due("meant" + there, door.meant(unit, place), reading.meant(unit, place));
    due("kind" + there, door.kind(unit, place), reading.kind(unit, place));
    due("value" + there, door.value(unit, place), reading.value(unit, place));
    due("phase" + there, door.phase(unit, place), reading.phase(unit, place));
    due("applies" + there, door.applies(unit, place), reading.applies(unit, place));
    due("overridden" + there, door.overridden(unit, place), reading.overridden(unit, place));
    due("reached" + there, door.reached(unit, place), reading.reached(unit, place));
    due("raised" + there, door.raised(unit, place), reading.raised(unit, place));
    if (!reading.stmts.get(unit).containsKey(place)) return;
    for (int name = 0; name < 40; name++) {
      due("isSet " + nameOf(name) + there, door.isSet(unit, place, name), reading.isSet(unit, place, nameOf(name)));
    }
  }

  private static void compareRuns(Sourcedoor door, Reading reading, int unit, Reading.Member main) {
    for (int[] each : ARGUMENTS) {
      int end = door.run(unit, each[0], each[1]);
      if (main == null) {
        due("run without M", end, -9);
        continue;
      }
      Reading.Run run = reading.new Run(main, each[0], each[1]);
      String what = " of a run with " + each[0] + " " + each[1];
      int[] counts = {run.end, run.told.size(), run.steps, run.calls, run.most, run.made, run.thrown};
      due("the end" + what, end, run.end);
      due("result" + what, door.result(), run.result);
      due("output" + what, door.output(), String.join(" ", run.told));
      for (int k = 0; k < counts.length; k++) due("outcome " + k + what, door.outcome(k), counts[k]);
      due("turned" + what, door.isTurned(unit, each[0], each[1]), true);
    }
  }
}
