/** The units' texts (promises 1 to 11). */
public final class UnitsTest {
  private static final String[] SAMPLES = {
    "class a { static int f ( int x ) { return x + 1 ; } static int f ( long x ) { return 2 ; } static int f ( "
        + "Object x ) { return 3 ; } static int M ( int x , int y ) { byte b = 5 ; Integer i = x ; tell f ( b ) ; "
        + "tell f ( i ) ; tell f ( x + ( long ) y ) ; return f ( null ) ; } }",
    "interface s { int k = 2 ; int v ( int n ) ; } abstract class t implements s { int d ; t ( int d ) { this "
        + ". d = d ; } int w ( ) { return v ( d ) * k ; } } class u extends t { u ( ) { super ( 3 ) ; } int v ( int "
        + "n ) { return n + d ; } }",
    "class c { static int M ( int x , int y ) { t z = new u ( ) ; z . d = x ; tell z . w ( ) ; s q = z ; tell "
        + "q . v ( y ) ; return ( ( u ) q ) . d ; } }",
    "class e extends Throw { int n ; e ( int n ) { this . n = n ; } } class g { static int h ( int x ) throws "
        + "e { if ( x < 0 ) throw new e ( x ) ; return 10 div x ; } static int M ( int x , int y ) { int r ; try { r "
        + "= h ( x ) ; tell r ; } catch ( e p ) { r = p . n ; } catch ( Divide p ) { r = 0 ; } finally { tell y ; } "
        + "return r ; } }",
    "class l { static final int n = 2 * 3 ; static int M ( int x , int y ) { int s ; if ( x < y && y < n ) s = "
        + "x ; else { s = 0 ; while ( true ) { s += y ; if ( n < s ) break ; } } byte b = n ; b += s ; tell b ; "
        + "return s ; } }"
  };

  public static void main(String[] args) {
    fresh();
    type();
    cut();
    samples();
    changes();
    swap();
    texts();
    ofUnit();
    Door.end();
  }

  private static void fresh() {
    Sourcedoor door = new Sourcedoor();
    for (int unit = 0; unit < 4; unit++) {
      Door.due("text", door.text(unit), "");
      Door.due("tokens", door.ofUnit(unit, 0), 0);
      Door.due("well", door.ofUnit(unit, 3), 1);
      Door.due("package", door.ofUnit(unit, 4), -1);
    }
  }

  private static void type() {
    Sourcedoor door = new Sourcedoor();
    Door.due("type", door.type(1, 0, -1, 100, -1, 34), 3);
    Door.due("type", door.type(1, -1, -1, -1, -1, 35), 4);
    Door.due("type nothing", door.type(1, -1, -1, -1, -1, -1), 4);
    Door.due("text", door.text(1), "class a { }");
    Door.due("other text", door.text(0), "");
    for (int bad : new int[] {-2, 64, 99, 140, 999, 11000, Integer.MIN_VALUE, Integer.MAX_VALUE}) {
      Door.throwing("type " + bad, IllegalArgumentException.class, () -> door.type(1, 0, 0, 0, 0, bad));
      Door.throwing("type first " + bad, IllegalArgumentException.class, () -> door.type(1, bad, 0, 0, 0, 0));
    }
    Door.throwing("type unit", IndexOutOfBoundsException.class, () -> door.type(4, 64, 0, 0, 0, 0));
    Door.throwing("type unit below", IndexOutOfBoundsException.class, () -> door.type(-1, 0, 0, 0, 0, 0));
    Door.due("nothing was typed", door.text(1), "class a { }");
    for (int good : new int[] {0, 63, 100, 139, 1000, 10999}) door.type(2, good, -1, -1, -1, -1);
    Door.due("text", door.text(2), "class Cast a N 0 9999");
    Sourcedoor full = new Sourcedoor();
    for (int k = 0; k < 47; k++) full.type(0, 38, 38, 38, 38, 38);
    Door.due("full", full.type(0, 38, 38, -1, 38, -1), 238);
    Door.throwing("too many", IllegalStateException.class, () -> full.type(0, 38, 38, 38, -1, -1));
    Door.throwing("no token ahead of too many", IllegalArgumentException.class, () -> full.type(0, 38, 38, 38, 38, 70));
    Door.due("full", full.type(0, -1, 38, -1, 38, -1), 240);
    Door.due("nothing more", full.type(0, -1, -1, -1, -1, -1), 240);
    Door.throwing("one too many", IllegalStateException.class, () -> full.type(0, 38, -1, -1, -1, -1));
    Door.due("others have room", full.type(1, 38, -1, -1, -1, -1), 1);
  }

  private static void cut() {
    Sourcedoor door = Door.world("class a { }");
    Door.due("cut", door.cut(0, 1), 3);
    Door.due("text", door.text(0), "class a {");
    Door.due("faults", door.faults(0), "1@3");
    Door.due("cut all", door.cut(0, 240), 0);
    Door.due("cut none", door.cut(0, 1), 0);
    Door.due("faults", door.faults(0), "");
    Door.throwing("cut 0", IllegalArgumentException.class, () -> door.cut(0, 0));
    Door.throwing("cut 241", IllegalArgumentException.class, () -> door.cut(0, 241));
    Door.throwing("cut unit", IndexOutOfBoundsException.class, () -> door.cut(4, 0));
  }

  private static void samples() {
    Sourcedoor door = new Sourcedoor();
    int[] many = {93, 82, 60, 116, 82};
    for (int k = 0; k < 5; k++) {
      Door.due("sample", door.sample(3, k), many[k]);
      Door.due("sample text", door.text(3), SAMPLES[k]);
    }
    Door.throwing("sample 5", IllegalArgumentException.class, () -> door.sample(0, 5));
    Door.throwing("sample -1", IllegalArgumentException.class, () -> door.sample(0, -1));
    Door.throwing("sample unit", IndexOutOfBoundsException.class, () -> door.sample(-1, 9));
    Sourcedoor all = new Sourcedoor();
    for (int k = 0; k < 4; k++) all.sample(k, k);
    Door.due("samples are well together", all.house(3), 4);
  }

  private static void changes() {
    Sourcedoor door = Door.world("class a { }");
    Door.due("change", door.change(0, 1, 101), 100);
    Door.due("text", door.text(0), "class b { }");
    Door.throwing("change token", IllegalArgumentException.class, () -> door.change(0, 1, -1));
    Door.throwing("change place", IndexOutOfBoundsException.class, () -> door.change(0, 4, -1));
    Door.throwing("change place below", IndexOutOfBoundsException.class, () -> door.change(0, -1, 0));
    Door.throwing("change unit", IndexOutOfBoundsException.class, () -> door.change(4, 0, 0));
    Door.due("insert", door.insert(0, 0, 2), 5);
    Door.due("insert behind", door.insert(0, 5, 38), 6);
    Door.due("text", door.text(0), "abstract class b { } ;");
    Door.throwing("insert place", IndexOutOfBoundsException.class, () -> door.insert(0, 7, -1));
    Door.throwing("insert place below", IndexOutOfBoundsException.class, () -> door.insert(0, -1, 0));
    Door.throwing("insert token", IllegalArgumentException.class, () -> door.insert(0, 6, 64));
    Door.throwing("insert unit", IndexOutOfBoundsException.class, () -> door.insert(4, 0, 0));
    Door.due("remove", door.remove(0, 5), 38);
    Door.due("remove", door.remove(0, 0), 2);
    Door.due("text", door.text(0), "class b { }");
    Door.throwing("remove place", IndexOutOfBoundsException.class, () -> door.remove(0, 4));
    Door.throwing("remove unit", IndexOutOfBoundsException.class, () -> door.remove(-1, 0));
    Sourcedoor full = new Sourcedoor();
    for (int k = 0; k < 48; k++) full.type(0, 0, 1, 2, 3, 4);
    Door.throwing("insert into a full one", IllegalStateException.class, () -> full.insert(0, 240, 0));
    Door.throwing("insert no token into a full one", IllegalArgumentException.class, () -> full.insert(0, 240, 99));
    Door.throwing("insert behind a full one", IndexOutOfBoundsException.class, () -> full.insert(0, 241, 0));
    Door.due("remove from a full one", full.remove(0, 0), 0);
    Door.due("what follows comes nearer", full.token(0, 0), 1);
    Door.due("insert again", full.insert(0, 239, 7), 240);
    Door.due("the last one", full.token(0, 239), 7);
    Door.throwing("a place behind", IndexOutOfBoundsException.class, () -> full.token(0, 240));
  }

  private static void swap() {
    Sourcedoor door = Door.world("class a { }", "", "import");
    Door.due("swap", door.swap(0, 2), 1);
    Door.due("text", door.text(0), "import");
    Door.due("text", door.text(2), "class a { }");
    Door.due("swap with itself", door.swap(2, 2), 4);
    Door.due("swap with an empty one", door.swap(2, 1), 0);
    Door.due("types", door.types(1), "a");
    Door.throwing("swap unit", IndexOutOfBoundsException.class, () -> door.swap(0, 4));
    Door.throwing("swap unit below", IndexOutOfBoundsException.class, () -> door.swap(-1, 0));
  }

  private static void texts() {
    Sourcedoor door = new Sourcedoor();
    StringBuilder all = new StringBuilder();
    for (int token = 0; token < 64; token++) door.type(0, token, -1, -1, -1, -1);
    Door.due("words", door.text(0), Door.WORDS);
    for (int token = 0; token < 64; token++) Door.due("token", door.token(0, token), token);
    for (int name = 0; name < 40; name++) {
      door.type(1, 100 + name, -1, -1, -1, -1);
      all.append(name == 0 ? "" : " ").append((char) (name < 26 ? 'a' + name : 'A' + name - 26));
    }
    Door.due("names", door.text(1), all.toString());
    Door.throwing("token unit", IndexOutOfBoundsException.class, () -> door.token(4, 0));
    Door.throwing("token place", IndexOutOfBoundsException.class, () -> door.token(0, -1));
    Door.throwing("text unit", IndexOutOfBoundsException.class, () -> door.text(4));
  }

  private static void ofUnit() {
    Sourcedoor door = Door.world("package N ; import p . a ; import p . b ; class c { int k = z ; int n = w ; } interface d { }");
    int[] due = {31, 2, 4, 0, 39, 2};
    for (int what = 0; what < 6; what++) Door.due("ofUnit " + what, door.ofUnit(0, what), due[what]);
    int[] empty = {0, 0, 0, 1, -1, 0};
    for (int what = 0; what < 6; what++) Door.due("ofUnit of an empty one " + what, door.ofUnit(1, what), empty[what]);
    door.cut(0, 1);
    int[] broken = {30, 0, 1, 0, -1, 0};
    for (int what = 0; what < 6; what++) Door.due("ofUnit with a fault of syntax " + what, door.ofUnit(0, what), broken[what]);
    Door.throwing("ofUnit what", IllegalArgumentException.class, () -> door.ofUnit(0, 6));
    Door.throwing("ofUnit what below", IllegalArgumentException.class, () -> door.ofUnit(0, -1));
    Door.throwing("ofUnit unit", IndexOutOfBoundsException.class, () -> door.ofUnit(4, 6));
  }
}
