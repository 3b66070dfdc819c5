import java.util.Arrays;

/** The front door of a compiler for a part of Java, and beside it a plain interpreter (see ../shared/DOC.md). */
public final class Sourcedoor {
  private static final int NONE = -1;
  private static final int REFUSED = -9;
  private static final int UNITS = 4;
  private static final int MOST_TOKENS = 240;
  // A row is longer than a unit may be, so that a fault behind the last token has a place as well.
  private static final int ROW = 256;
  private static final int SPAN = UNITS * ROW;
  private static final int MOST_TYPES = 256;
  private static final int MOST_MEMBERS = 384;
  private static final int MOST_VARS = 384;
  private static final int SCRIPT = 4096;
  private static final int DEEPEST = 512;
  private static final int MOST_OPEN = 8;

  // ---- tokens
  private static final int CLASS = 0, INTERFACE = 1, ABSTRACT = 2, STATIC = 3, FINAL = 4, EXTENDS = 5;
  private static final int IMPLEMENTS = 6, THROWS = 7, PACKAGE = 8, IMPORT = 9, VOID = 10, BOOLEAN = 11;
  private static final int BYTE = 12, INT = 13, LONG = 14, IF = 15, ELSE = 16, WHILE = 17, DO = 18, BREAK = 19;
  private static final int CONTINUE = 20, RETURN = 21, THROW = 22, TRY = 23, CATCH = 24, FINALLY = 25, NEW = 26;
  private static final int THIS = 27, SUPER = 28, NULL = 29, TRUE = 30, FALSE = 31, INSTANCEOF = 32, TELL = 33;
  private static final int OPEN_BRACE = 34, CLOSE_BRACE = 35, OPEN = 36, CLOSE = 37, SEMICOLON = 38, COMMA = 39;
  private static final int DOT = 40, SET = 41, ADD_SET = 42, PLUS = 43, MINUS = 44, TIMES = 45, DIVIDE = 46;
  private static final int REST = 47, LESS = 48, LESS_SAME = 49, SAME = 50, OTHER = 51, NOT = 52, AND = 53;
  private static final int OR = 54, ASK = 55, COLON = 56, FIRST_KNOWN = 57, LAST_KNOWN = 63;
  private static final int FIRST_NAME = 100, NAMES = 40, FIRST_NUMBER = 1000, LAST_NUMBER = 10999;
  private static final int NAME_OF_M = 138;
  private static final String WORDS = "class interface abstract static final extends implements throws package import void boolean byte int long if else while do break continue return throw try catch finally new this super null true false instanceof tell { } ( ) ; , . = += + - * div % < <= == != ! && || ? : Object Integer Throw Slip Divide Null Cast ";

  // ---- faults
  private static final int F_SYNTAX = 1, F_TWICE = 2, F_UNKNOWN = 3, F_CYCLE = 4, F_FORM = 5, F_ABSTRACT = 6;
  private static final int F_OVERRIDE = 7, F_AMBIGUOUS = 8, F_STATIC = 9, F_FINAL = 10, F_UNSET = 11;
  private static final int F_UNREACHED = 12, F_RETURN = 13, F_UNCAUGHT = 14, F_NEVER = 15, F_STAND = 16;
  private static final int FAULTS = 17;
  private static final int FLOW_FAULTS = 1 << F_UNSET | 1 << F_UNREACHED | 1 << F_RETURN | 1 << F_UNCAUGHT | 1 << F_NEVER;

  // ---- kinds: a REF is K_REF and the index of its type
  private static final int NO_KIND = -1, K_BOOLEAN = 0, K_BYTE = 1, K_INT = 2, K_LONG = 3, K_NULL = 4, K_VOID = 5;
  private static final int K_REF = 10, K_OBJECT = 10, K_INTEGER = 11;
  private static final int T_OBJECT = 0, T_INTEGER = 1, T_THROW = 2, T_SLIP = 3, T_DIVIDE = 4, T_NULL = 5, T_CAST = 6;
  private static final int KNOWN_TYPES = 7;

  // ---- flags of types and of what has a name
  private static final int IS_STATIC = 1, IS_FINAL = 2, IS_ABSTRACT = 4, IS_TWICE = 8, HAS_VALUE = 16;
  private static final int HAS_START = 32, IS_CLEAN = 64, IS_INTERFACE = 128, IS_CYCLE = 256;

  // ---- what has a name; D_UNSAID is the constructor that a class without any has
  private static final int D_FIELD = 1, D_METHOD = 2, D_START = 3, D_UNSAID = 4, D_PARAM = 5, D_LOCAL = 6;
  private static final int D_CATCH = 7;

  // ---- roles of REFS
  private static final int R_PLAIN = 0, R_CLASS = 1, R_IMPLEMENTS = 2, R_INTERFACE = 3, R_THROWS = 4, R_CATCH = 5;

  // ---- sorts of EXPRS, by their signs
  private static final int E_NUMBER = 1, E_TRUTH = 2, E_NULL = 3, E_THIS = 4, E_NAME = 5, E_FIELD = 6;
  private static final int E_SUPER_FIELD = 7, E_CALL = 8, E_DOT_CALL = 9, E_SUPER_CALL = 10, E_NEW = 11;
  private static final int E_START = 12, E_MINUS = 13, E_NOT = 14, E_CAST = 15, E_ARITHMETIC = 16, E_COMPARE = 17;
  private static final int E_SAME = 18, E_LOGIC = 19, E_INSTANCE = 20, E_CHOICE = 21, E_SET = 22, E_ADD_SET = 23;
  // A node's flags: left of = or +=; read there (by +=); a NAME right ahead of "."
  private static final int N_TARGET = 1, N_READ = 2, N_AHEAD = 4;

  // ---- sorts of ITEMS and STATEMENTS, by their first tokens (W_CATCH is none, but stands at its word)
  private static final int W_BLOCK = 1, W_EMPTY = 2, W_LOCAL = 3, W_IF = 4, W_WHILE = 5, W_DO = 6, W_BREAK = 7;
  private static final int W_CONTINUE = 8, W_RETURN = 9, W_THROW = 10, W_TELL = 11, W_TRY = 12, W_PLAIN = 13;
  private static final int W_CATCH = 14;

  // ---- the script: what happens in a body, in the sequence in which it is run
  private static final int EV_NODE = 0, EV_MIDDLE = 1, EV_OTHERWISE = 2, EV_BEFORE = 3, EV_ARG = 4;
  private static final int EV_BEGIN = 5, EV_END = 6, EV_BLOCK = 7, EV_BLOCK_END = 8, EV_LOCAL = 9, EV_PLAIN = 10;
  private static final int EV_IF = 11, EV_ELSE = 12, EV_IF_END = 13, EV_WHILE = 14, EV_LOOP = 15, EV_WHILE_END = 16;
  private static final int EV_DO = 17, EV_DO_TEST = 18, EV_DO_END = 19, EV_BREAK = 20, EV_CONTINUE = 21;
  private static final int EV_RETURN = 22, EV_THROW = 23, EV_TELL = 24, EV_TRY = 25, EV_TRIED = 26, EV_CATCH = 27;
  private static final int EV_CAUGHT = 28, EV_FINALLY = 29, EV_TRY_END = 30;
  private static final int EV_SUPER = 31, EV_FIELDS = 32, EV_FIELD_END = 33, EV_LEAVE = 34, EV_STATICS = 35;
  private static final int EV_MAIN = 36, EV_STOP = 37;

  // ---- what a NAME, a call or a new means
  private static final int S_NOTHING = 0, S_VAR = 1, S_FIELD = 2, S_CALL = 3, S_TYPE = 4;
  // What a search finds: a constructor of a KNOWN class, that has no place; several fields.
  private static final int KNOWN_START = -2, SEVERAL = -3;

  // ---- parts of a try
  private static final int IN_TRIED = 0, IN_CATCH = 1, IN_FINALLY = 2;

  // ---- runs
  private static final int RUNNING = 0, ENDED = 1, THROWN = 2, STOPPED = 3;
  // To be sound, the M of each unit is tried with two pairs of arguments.
  private static final int TRIALS = 2 * UNITS;
  private static final int MOST_STEPS = 2000, MOST_CALLS = 24, MOST_TOLD = 60;
  private static final int O_END = 0, O_TOLD = 1, O_STEPS = 2, O_CALLS = 3, O_DEEPEST = 4, O_MADE = 5, O_THROWN = 6;
  private static final int OUTCOMES = 7;

  private static final int[] SAMPLE_0 = {
    0, 100, 34, 3, 13, 105, 36, 13, 123, 37, 34, 21, 123, 43, 1001, 38, 35, 3, 13, 105, 36, 14, 123, 37, 34, 21,
    1002, 38, 35, 3, 13, 105, 36, 57, 123, 37, 34, 21, 1003, 38, 35, 3, 13, 138, 36, 13, 123, 39, 13, 124, 37, 34,
    12, 101, 41, 1005, 38, 58, 108, 41, 123, 38, 33, 105, 36, 101, 37, 38, 33, 105, 36, 108, 37, 38, 33, 105, 36,
    123, 43, 36, 14, 37, 124, 37, 38, 21, 105, 36, 29, 37, 38, 35, 35
  };
  private static final int[] SAMPLE_1 = {
    1, 118, 34, 13, 110, 41, 1002, 38, 13, 121, 36, 13, 113, 37, 38, 35, 2, 0, 119, 6, 118, 34, 13, 103, 38, 119, 36,
    13, 103, 37, 34, 27, 40, 103, 41, 103, 38, 35, 13, 122, 36, 37, 34, 21, 121, 36, 103, 37, 45, 110, 38, 35, 35, 0,
    120, 5, 119, 34, 120, 36, 37, 34, 28, 36, 1003, 37, 38, 35, 13, 121, 36, 13, 113, 37, 34, 21, 113, 43, 103, 38,
    35, 35
  };
  private static final int[] SAMPLE_2 = {
    0, 102, 34, 3, 13, 138, 36, 13, 123, 39, 13, 124, 37, 34, 119, 125, 41, 26, 120, 36, 37, 38, 125, 40, 103, 41,
    123, 38, 33, 125, 40, 122, 36, 37, 38, 118, 116, 41, 125, 38, 33, 116, 40, 121, 36, 124, 37, 38, 21, 36, 36, 120,
    37, 116, 37, 40, 103, 38, 35, 35
  };
  private static final int[] SAMPLE_3 = {
    0, 104, 5, 59, 34, 13, 113, 38, 104, 36, 13, 113, 37, 34, 27, 40, 113, 41, 113, 38, 35, 35, 0, 106, 34, 3, 13,
    107, 36, 13, 123, 37, 7, 104, 34, 15, 36, 123, 48, 1000, 37, 22, 26, 104, 36, 123, 37, 38, 21, 1010, 46, 123, 38,
    35, 3, 13, 138, 36, 13, 123, 39, 13, 124, 37, 34, 13, 117, 38, 23, 34, 117, 41, 107, 36, 123, 37, 38, 33, 117,
    38, 35, 24, 36, 104, 115, 37, 34, 117, 41, 115, 40, 113, 38, 35, 24, 36, 61, 115, 37, 34, 117, 41, 1000, 38, 35,
    25, 34, 33, 124, 38, 35, 21, 117, 38, 35, 35
  };
  private static final int[] SAMPLE_4 = {
    0, 111, 34, 3, 4, 13, 113, 41, 1002, 45, 1003, 38, 3, 13, 138, 36, 13, 123, 39, 13, 124, 37, 34, 13, 118, 38, 15,
    36, 123, 48, 124, 53, 124, 48, 113, 37, 118, 41, 123, 38, 16, 34, 118, 41, 1000, 38, 17, 36, 30, 37, 34, 118, 42,
    124, 38, 15, 36, 113, 48, 118, 37, 19, 38, 35, 35, 12, 101, 41, 113, 38, 101, 42, 118, 38, 33, 101, 38, 21, 118,
    38, 35, 35
  };

  private final Rows rows = new Rows();
  private final Tree tree = new Tree();
  private final World world = new World(rows);
  private final Parser parser = new Parser(rows, tree, world);
  private final Linker linker = new Linker(rows, world);
  private final Judge judge = new Judge(rows, tree, world, linker);
  private final Flow flow = new Flow(rows, tree, world, linker, judge);
  private final Machine machine = new Machine(world, tree, linker, judge, flow);
  private final Outcome last = new Outcome();
  private final Outcome trial = new Outcome();
  private final Outcome other = new Outcome();
  private boolean fresh;
  private boolean soundKnown;
  private boolean sound;
  private boolean isTurning;
  private int refused;
  private int knocks;
  private int runs;

  /** Creates an empty world. */
  public Sourcedoor() {
  }

  // ---- units

  public int type(int unit, int a, int b, int c, int d, int e)
      throws IndexOutOfBoundsException, IllegalArgumentException, IllegalStateException {
    if (!isUnit(unit)) throw new IndexOutOfBoundsException();
    if (!mayType(a) || !mayType(b) || !mayType(c) || !mayType(d) || !mayType(e)) throw new IllegalArgumentException();
    int more = (a == NONE ? 0 : 1) + (b == NONE ? 0 : 1) + (c == NONE ? 0 : 1) + (d == NONE ? 0 : 1) + (e == NONE ? 0 : 1);
    if (rows.many[unit] + more > MOST_TOKENS) throw new IllegalStateException();
    rows.put(unit, a);
    rows.put(unit, b);
    rows.put(unit, c);
    rows.put(unit, d);
    rows.put(unit, e);
    changed();
    return rows.many[unit];
  }

  public int cut(int unit, int many) throws IndexOutOfBoundsException, IllegalArgumentException {
    if (!isUnit(unit)) throw new IndexOutOfBoundsException();
    if (many < 1 || many > MOST_TOKENS) throw new IllegalArgumentException();
    rows.many[unit] = Math.max(0, rows.many[unit] - many);
    changed();
    return rows.many[unit];
  }

  public int sample(int unit, int sample) throws IndexOutOfBoundsException, IllegalArgumentException {
    if (!isUnit(unit)) throw new IndexOutOfBoundsException();
    if (sample < 0 || sample > 4) throw new IllegalArgumentException();
    rows.fill(unit, sampleTokens(sample));
    changed();
    return rows.many[unit];
  }

  public int change(int unit, int place, int token) throws IndexOutOfBoundsException, IllegalArgumentException {
    if (!isPlace(unit, place)) throw new IndexOutOfBoundsException();
    if (!isToken(token)) throw new IllegalArgumentException();
    int old = rows.token[unit * ROW + place];
    rows.token[unit * ROW + place] = token;
    changed();
    return old;
  }

  public int insert(int unit, int place, int token)
      throws IndexOutOfBoundsException, IllegalArgumentException, IllegalStateException {
    if (!isUnit(unit) || place < 0 || place > rows.many[unit]) throw new IndexOutOfBoundsException();
    if (!isToken(token)) throw new IllegalArgumentException();
    if (rows.many[unit] >= MOST_TOKENS) throw new IllegalStateException();
    rows.putIn(unit, place, token);
    changed();
    return rows.many[unit];
  }

  public int remove(int unit, int place) throws IndexOutOfBoundsException {
    if (!isPlace(unit, place)) throw new IndexOutOfBoundsException();
    int old = rows.token[unit * ROW + place];
    rows.takeOut(unit, place);
    changed();
    return old;
  }

  public int swap(int unit, int other) throws IndexOutOfBoundsException {
    if (!isUnit(unit) || !isUnit(other)) throw new IndexOutOfBoundsException();
    rows.exchange(unit, other);
    changed();
    return rows.many[unit];
  }

  public int token(int unit, int place) throws IndexOutOfBoundsException {
    if (!isPlace(unit, place)) throw new IndexOutOfBoundsException();
    return rows.token[unit * ROW + place];
  }

  public String text(int unit) throws IndexOutOfBoundsException {
    if (!isUnit(unit)) throw new IndexOutOfBoundsException();
    world.begin();
    for (int place = 0; place < rows.many[unit]; place++) {
      world.gap();
      world.writeToken(rows.token[unit * ROW + place]);
    }
    return world.text.toString();
  }

  public int ofUnit(int unit, int what) throws IndexOutOfBoundsException, IllegalArgumentException {
    if (!isUnit(unit)) throw new IndexOutOfBoundsException();
    if (what < 0 || what > 5) throw new IllegalArgumentException();
    ready();
    return factOfUnit(unit, what);
  }

  // ---- faults

  public int fault(int unit, int k, int what) throws IndexOutOfBoundsException, IllegalArgumentException {
    if (!isUnit(unit)) throw new IndexOutOfBoundsException();
    if (k < 0 || what < 0 || what > 1) throw new IllegalArgumentException();
    ready();
    return rows.faultOf(unit, k, what);
  }

  public int faultAt(int unit, int place) throws IndexOutOfBoundsException {
    if (!isUnit(unit)) throw new IndexOutOfBoundsException();
    ready();
    return place < 0 || place >= ROW ? 0 : rows.smallestAt(unit * ROW + place);
  }

  public String faults(int unit) throws IndexOutOfBoundsException {
    if (!isUnit(unit)) throw new IndexOutOfBoundsException();
    ready();
    world.begin();
    writeFaults(unit);
    return world.text.toString();
  }

  // ---- types

  public String imports(int unit) throws IndexOutOfBoundsException {
    if (!isUnit(unit)) throw new IndexOutOfBoundsException();
    ready();
    world.begin();
    for (int k = 0; k < world.imports[unit]; k++) {
      int at = world.importAt(unit, k);
      world.gap();
      world.writeToken(rows.token[at - 2]);
      world.text.append('.');
      world.writeToken(rows.token[at]);
    }
    return world.text.toString();
  }

  public int main(int unit) throws IndexOutOfBoundsException {
    if (!isUnit(unit)) throw new IndexOutOfBoundsException();
    ready();
    int m = world.mainOf(unit);
    return m == NONE ? NONE : world.members[m].at - unit * ROW;
  }

  public String types(int unit) throws IndexOutOfBoundsException {
    if (!isUnit(unit)) throw new IndexOutOfBoundsException();
    ready();
    world.begin();
    writeTypes(unit);
    return world.text.toString();
  }

  public int ofType(int unit, int k, int what) throws IndexOutOfBoundsException, IllegalArgumentException {
    ready();
    int t = typeThere(unit, k);
    if (t == NONE) throw new IndexOutOfBoundsException();
    if (what < 0 || what > 7) throw new IllegalArgumentException();
    return factOfType(t, what);
  }

  public String above(int unit, int k) throws IndexOutOfBoundsException {
    ready();
    int t = typeThere(unit, k);
    if (t == NONE) throw new IndexOutOfBoundsException();
    world.begin();
    writeAbove(t);
    return world.text.toString();
  }

  public boolean isSubtype(int unit, int k, int other, int m) throws IndexOutOfBoundsException {
    ready();
    int one = typeThere(unit, k);
    int two = typeThere(other, m);
    if (one == NONE || two == NONE) throw new IndexOutOfBoundsException();
    return world.under(one, two);
  }

  public String methods(int unit, int k) throws IndexOutOfBoundsException {
    ready();
    int t = typeThere(unit, k);
    if (t == NONE) throw new IndexOutOfBoundsException();
    world.begin();
    writeMethods(t);
    return world.text.toString();
  }

  public String field(int unit, int k, int name) throws IndexOutOfBoundsException, IllegalArgumentException {
    ready();
    int t = typeThere(unit, k);
    if (t == NONE) throw new IndexOutOfBoundsException();
    if (name < 0 || name >= NAMES) throw new IllegalArgumentException();
    int f = linker.fieldOf(t, FIRST_NAME + name);
    if (f == NONE) return "-";
    if (f == SEVERAL) return "!";
    world.begin();
    world.writeField(f);
    world.text.append(':');
    world.writeKind(world.members[f].kind);
    return world.text.toString();
  }

  public String own(int unit, int k) throws IndexOutOfBoundsException {
    ready();
    int t = typeThere(unit, k);
    if (t == NONE) throw new IndexOutOfBoundsException();
    world.begin();
    for (int m = world.types[t].firstMember; m < world.types[t].lastMember; m++) {
      if (!world.isOwn(m, D_FIELD)) continue;
      world.gap();
      world.writeToken(rows.token[world.members[m].at]);
      world.text.append(':');
      world.writeKind(world.members[m].kind);
    }
    return world.text.toString();
  }

  public String constructors(int unit, int k) throws IndexOutOfBoundsException {
    ready();
    int t = typeThere(unit, k);
    if (t == NONE) throw new IndexOutOfBoundsException();
    world.begin();
    for (int m = world.types[t].firstMember; m < world.types[t].lastMember; m++) {
      if (!world.isOwn(m, D_START)) continue;
      world.gap();
      world.writeParams(m);
    }
    return world.text.toString();
  }

  public String subtypes(int unit, int k) throws IndexOutOfBoundsException {
    ready();
    int t = typeThere(unit, k);
    if (t == NONE) throw new IndexOutOfBoundsException();
    world.begin();
    for (int s = KNOWN_TYPES; s < world.typeCount; s++) {
      if (s == t || !world.under(s, t)) continue;
      world.gap();
      world.writeFull(s);
    }
    return world.text.toString();
  }

  public int overridden(int unit, int place) throws IndexOutOfBoundsException {
    if (!isPlace(unit, place)) throw new IndexOutOfBoundsException();
    ready();
    int m = world.memberAt(unit * ROW + place);
    if (m == NONE || !world.isOwn(m, D_METHOD)) return NONE;
    Type type = world.types[world.members[m].owner];
    int many = 0;
    for (int k = 0; k < type.aboves; k++) {
      if (world.methodLike(world.above[type.firstAbove + k], m) != NONE) many++;
    }
    return many;
  }

  // ---- names, expressions, flow

  public String meant(int unit, int place) throws IndexOutOfBoundsException {
    if (!isPlace(unit, place)) throw new IndexOutOfBoundsException();
    ready();
    world.begin();
    writeMeant(unit * ROW + place);
    return world.text.toString();
  }

  public String kind(int unit, int place) throws IndexOutOfBoundsException {
    if (!isPlace(unit, place)) throw new IndexOutOfBoundsException();
    ready();
    world.begin();
    writeKindAt(unit * ROW + place);
    return world.text.toString();
  }

  public String value(int unit, int place) throws IndexOutOfBoundsException {
    if (!isPlace(unit, place)) throw new IndexOutOfBoundsException();
    ready();
    world.begin();
    writeValueAt(unit * ROW + place);
    return world.text.toString();
  }

  public int phase(int unit, int place) throws IndexOutOfBoundsException {
    if (!isPlace(unit, place)) throw new IndexOutOfBoundsException();
    ready();
    return judge.phase[unit * ROW + place];
  }

  public int applies(int unit, int place) throws IndexOutOfBoundsException {
    if (!isPlace(unit, place)) throw new IndexOutOfBoundsException();
    ready();
    return judge.applies[unit * ROW + place];
  }

  public int items(int unit) throws IndexOutOfBoundsException {
    if (!isUnit(unit)) throw new IndexOutOfBoundsException();
    ready();
    int many = 0;
    for (int at = unit * ROW; at < unit * ROW + rows.many[unit]; at++) {
      if (tree.work[at] != 0 && tree.work[at] != W_CATCH) many++;
    }
    return many;
  }

  public int reached(int unit, int place) throws IndexOutOfBoundsException {
    if (!isPlace(unit, place)) throw new IndexOutOfBoundsException();
    ready();
    return flow.reachOf(unit * ROW + place);
  }

  public int isSet(int unit, int place, int name) throws IndexOutOfBoundsException, IllegalArgumentException {
    if (!isPlace(unit, place)) throw new IndexOutOfBoundsException();
    if (name < 0 || name >= NAMES) throw new IllegalArgumentException();
    ready();
    return flow.setOf(unit * ROW + place, name);
  }

  public String raised(int unit, int place) throws IndexOutOfBoundsException {
    if (!isPlace(unit, place)) throw new IndexOutOfBoundsException();
    ready();
    world.begin();
    flow.writeRaised(unit * ROW + place);
    return world.text.toString();
  }

  // ---- runs

  public int run(int unit, int x, int y) throws IndexOutOfBoundsException {
    if (!isUnit(unit)) throw new IndexOutOfBoundsException();
    ready();
    int m = runnable(unit);
    if (m == NONE) {
      refused++;
      return REFUSED;
    }
    runs++;
    machine.perform(m, x, y, last, false);
    return last.count[O_END];
  }

  public String output() {
    return last.told.toString();
  }

  public String told(int k) throws IllegalArgumentException {
    if (k < 0) throw new IllegalArgumentException();
    if (k >= last.count[O_TOLD]) return "-";
    world.begin();
    last.writeTold(k, world.text);
    return world.text.toString();
  }

  public String result() {
    return last.result.toString();
  }

  public int outcome(int what) throws IllegalArgumentException {
    if (what < 0 || what >= OUTCOMES) throw new IllegalArgumentException();
    return last.count[what];
  }

  public boolean isTurned(int unit, int x, int y) throws IndexOutOfBoundsException {
    if (!isUnit(unit)) throw new IndexOutOfBoundsException();
    ready();
    int m = runnable(unit);
    if (m == NONE) return true;
    machine.perform(m, x, y, trial, false);
    turn();
    ready();
    int turned = runnable(unit);
    if (turned != NONE) machine.perform(turned, x, y, other, false);
    turnBack();
    return turned != NONE && trial.isLike(other);
  }

  // ---- the whole

  public int blank() {
    refused++;
    return REFUSED;
  }

  public int knock() {
    knocks++;
    return knocks;
  }

  public int house(int what) throws IllegalArgumentException {
    if (what < 0 || what > 6) throw new IllegalArgumentException();
    ready();
    return factOfHouse(what);
  }

  public boolean isSound() {
    for (int n = 0; n < TRIALS && !soundKnown; n++) {
      ready();
      firstTrial(n);
      ready();
      secondTrial(n);
    }
    return sound;
  }

  public long digest() {
    for (int n = 0; n < TRIALS && !soundKnown; n++) {
      ready();
      firstTrial(n);
      ready();
      secondTrial(n);
    }
    ready();
    long d = 7673;
    for (int what = 0; what <= 6; what++) d = d * 31 + factOfHouse(what);
    for (int unit = 0; unit < UNITS; unit++) {
      d = digestOfUnit(unit, d);
      int first = world.firstTypeOf(unit);
      for (int k = 0; k < world.typesOf(unit); k++) d = digestOfType(first + k, d);
      for (int place = 0; place < rows.many[unit]; place++) d = digestOfPlace(unit * ROW + place, d);
    }
    for (int what = 0; what < OUTCOMES; what++) d = d * 31 + last.count[what];
    d = digestOfText(last.told, d);
    d = digestOfText(last.result, d);
    return d * 31 + (sound ? 1 : 0);
  }

  // ---- what the calls above share

  private static boolean isUnit(int unit) {
    return unit >= 0 && unit < UNITS;
  }

  private boolean isPlace(int unit, int place) {
    return isUnit(unit) && place >= 0 && place < rows.many[unit];
  }

  private static boolean isName(int token) {
    return token >= FIRST_NAME && token < FIRST_NAME + NAMES;
  }

  private static boolean isNumber(int token) {
    return token >= FIRST_NUMBER && token <= LAST_NUMBER;
  }

  private static boolean isKnown(int token) {
    return token >= FIRST_KNOWN && token <= LAST_KNOWN;
  }

  private static boolean isRef(int token) {
    return token >= FIRST_KNOWN && token <= LAST_KNOWN || token >= FIRST_NAME && token < FIRST_NAME + NAMES;
  }

  private static boolean isPlainKind(int token) {
    return token >= BOOLEAN && token <= LONG;
  }

  private static boolean isToken(int token) {
    return token >= 0 && token <= LAST_KNOWN || isName(token) || isNumber(token);
  }

  private static boolean mayType(int token) {
    return token == NONE || isToken(token);
  }

  private static int[] sampleTokens(int sample) {
    switch (sample) {
      case 0: return SAMPLE_0;
      case 1: return SAMPLE_1;
      case 2: return SAMPLE_2;
      case 3: return SAMPLE_3;
      default: return SAMPLE_4;
    }
  }

  private void changed() {
    fresh = false;
    soundKnown = false;
  }

  /** Looks the whole world through anew, if a text changed since. */
  private void ready() {
    if (fresh) return;
    fresh = true;
    Arrays.fill(rows.marks, 0);
    world.clear();
    tree.clear();
    for (int unit = 0; unit < UNITS; unit++) parser.parse(unit);
    linker.link();
    linker.gatherAllMethods();
    judge.clear();
    boolean more = true;
    for (int round = 0; round < MOST_MEMBERS && more; round++) more = judge.pass(true);
    judge.pass(false);
    flow.check();
  }

  private void turn() {
    rows.keep();
    for (int t = KNOWN_TYPES; t < world.typeCount; t++) world.turn(t);
    fresh = false;
  }

  private void turnBack() {
    rows.restore();
    fresh = false;
  }

  /** The M that a call of run() would run; NONE if it would be refused. */
  private int runnable(int unit) {
    return rows.isWell() ? world.mainOf(unit) : NONE;
  }

  /** Of the trials that tell whether all is sound, the run of the world as it is; then turns the world. */
  private void firstTrial(int n) {
    if (n == 0) sound = world.isOrdered();
    int m = runnable(n / 2);
    isTurning = m != NONE;
    if (!isTurning) return;
    machine.perform(m, n % 2 == 0 ? 3 : 0, n % 2 == 0 ? 2 : -1, trial, true);
    sound = sound && machine.sound;
    turn();
  }

  /** The run of the turned world, that has to be like the first one. */
  private void secondTrial(int n) {
    soundKnown = n == TRIALS - 1;
    if (!isTurning) return;
    int m = runnable(n / 2);
    if (m != NONE) machine.perform(m, n % 2 == 0 ? 3 : 0, n % 2 == 0 ? 2 : -1, other, false);
    sound = sound && m != NONE && trial.isLike(other);
    turnBack();
  }

  /** The index of a type by its place among those of its unit; NONE if there is none. */
  private int typeThere(int unit, int k) {
    if (!isUnit(unit)) return NONE;
    int first = world.firstTypeOf(unit);
    return k >= 0 && k < world.typesOf(unit) ? first + k : NONE;
  }

  private int factOfUnit(int unit, int what) {
    switch (what) {
      case 0: return rows.many[unit];
      case 1: return world.typesOf(unit);
      case 2: return rows.faultCount(unit);
      case 3: return rows.faultCount(unit) == 0 ? 1 : 0;
      case 4: return world.packages[unit];
      default: return world.imports[unit];
    }
  }

  private int factOfHouse(int what) {
    int sum = 0;
    for (int unit = 0; unit < UNITS; unit++) {
      if (what == 0) sum += rows.many[unit];
      if (what == 1) sum += world.typesOf(unit);
      if (what == 2) sum += rows.faultCount(unit);
      if (what == 3 && rows.faultCount(unit) == 0) sum++;
    }
    if (what == 4) sum = refused;
    if (what == 5) sum = knocks;
    if (what == 6) sum = runs;
    return sum;
  }

  private int factOfType(int t, int what) {
    Type type = world.types[t];
    switch (what) {
      case 0: return type.at % ROW;
      case 1: return (type.flags & IS_INTERFACE) != 0 ? 1 : 0;
      case 2: return (type.flags & IS_ABSTRACT) != 0 ? 1 : 0;
      case 3: return type.methods;
      case 4: return world.abstractMethods(t);
      case 5: return world.ownMembers(t, D_START);
      case 6: return world.ownMembers(t, D_FIELD);
      default: return world.ownMembers(t, D_METHOD);
    }
  }

  private void writeFaults(int unit) {
    for (int place = 0; place <= rows.many[unit] && place < ROW; place++) {
      int marks = rows.marks[unit * ROW + place];
      for (int number = 1; number < FAULTS && marks != 0; number++) {
        if ((marks >> number & 1) == 0) continue;
        world.gap();
        world.text.append(number).append('@').append(place);
      }
    }
  }

  private void writeTypes(int unit) {
    int first = world.firstTypeOf(unit);
    for (int k = 0; k < world.typesOf(unit); k++) {
      world.gap();
      world.writeFull(first + k);
    }
  }

  private void writeAbove(int t) {
    Type type = world.types[t];
    for (int k = 0; k < type.aboves; k++) {
      world.gap();
      world.writeFull(world.above[type.firstAbove + k]);
    }
  }

  private void writeMethods(int t) {
    Type type = world.types[t];
    for (int k = 0; k < type.methods; k++) {
      int m = world.methods[type.firstMethod + k];
      world.gap();
      if (world.members[m].is(IS_ABSTRACT)) world.text.append("abstract ");
      if (world.members[m].is(IS_STATIC)) world.text.append("static ");
      world.writeSignature(m);
    }
  }

  private void writeMeant(int at) {
    int index = judge.meant[at];
    int sense = rows.marks[at] != 0 || tree.sort[at] == E_START ? S_NOTHING : judge.sense[at];
    switch (sense) {
      case S_VAR:
        world.text.append("local ").append(world.vars[index].at % ROW);
        break;
      case S_FIELD:
        world.text.append("field ");
        world.writeField(index);
        break;
      case S_TYPE:
        world.text.append("type ");
        world.writeFull(index);
        break;
      case S_CALL:
        if (tree.sort[at] == E_NEW) {
          writeNew(at, index);
        } else {
          world.text.append("method ");
          world.writeFull(world.members[index].owner);
          world.text.append('.');
          world.writeSignature(index);
        }
        break;
      default:
        world.text.append('-');
    }
  }

  private void writeNew(int at, int m) {
    world.text.append("new ");
    world.writeFull(world.typeAt(at + 1));
    if (m == KNOWN_START) world.text.append("()");
    else world.writeParams(m);
  }

  private void writeKindAt(int at) {
    if (judge.kind[at] == NO_KIND) world.text.append('-');
    else world.writeKind(judge.kind[at]);
  }

  private void writeValueAt(int at) {
    if (!judge.fixed[at]) world.text.append('-');
    else world.writeValue(judge.value[at], judge.kind[at]);
  }

  private long digestOfUnit(int unit, long start) {
    long d = start;
    for (int what = 0; what <= 5; what++) d = d * 31 + factOfUnit(unit, what);
    world.begin();
    writeFaults(unit);
    d = digestOfText(world.text, d);
    world.begin();
    writeTypes(unit);
    return digestOfText(world.text, d);
  }

  private long digestOfType(int t, long start) {
    long d = start;
    for (int what = 0; what <= 7; what++) d = d * 31 + factOfType(t, what);
    world.begin();
    writeAbove(t);
    d = digestOfText(world.text, d);
    world.begin();
    writeMethods(t);
    return digestOfText(world.text, d);
  }

  private long digestOfPlace(int at, long start) {
    long d = start;
    world.begin();
    writeMeant(at);
    d = d * 31 + world.text.length();
    world.begin();
    writeKindAt(at);
    d = d * 31 + world.text.length();
    world.begin();
    writeValueAt(at);
    d = d * 31 + world.text.length();
    d = d * 31 + judge.phase[at];
    d = d * 31 + judge.applies[at];
    d = d * 31 + flow.reachOf(at);
    world.begin();
    flow.writeRaised(at);
    return d * 31 + world.text.length();
  }

  private static long digestOfText(StringBuilder text, long start) {
    long d = start;
    for (int k = 0; k < text.length(); k++) d = d * 31 + text.charAt(k);
    return d;
  }

  /** The tokens of the four units, the faults at their places, and where the parser stands in them. */
  private static final class Rows {
    final int[] token = new int[SPAN];
    final int[] many = new int[UNITS];
    final int[] marks = new int[SPAN];
    final int[] kept = new int[SPAN];
    int base;
    int at;
    int end;
    int open;
    int bad;
    int zone;
    int loop;

    void put(int unit, int token) {
      if (token == NONE || many[unit] >= MOST_TOKENS) return;
      this.token[unit * ROW + many[unit]] = token;
      many[unit]++;
    }

    void fill(int unit, int[] tokens) {
      many[unit] = 0;
      for (int k = 0; k < tokens.length; k++) put(unit, tokens[k]);
    }

    void putIn(int unit, int place, int token) {
      int to = unit * ROW + place;
      for (int k = unit * ROW + many[unit]; k > to; k--) this.token[k] = this.token[k - 1];
      this.token[to] = token;
      many[unit]++;
    }

    void takeOut(int unit, int place) {
      many[unit]--;
      for (int k = unit * ROW + place; k < unit * ROW + many[unit]; k++) token[k] = token[k + 1];
    }

    void exchange(int unit, int other) {
      for (int k = 0; k < MOST_TOKENS; k++) {
        int one = token[unit * ROW + k];
        token[unit * ROW + k] = token[other * ROW + k];
        token[other * ROW + k] = one;
      }
      int count = many[unit];
      many[unit] = many[other];
      many[other] = count;
    }

    void keep() {
      System.arraycopy(token, 0, kept, 0, SPAN);
    }

    void restore() {
      System.arraycopy(kept, 0, token, 0, SPAN);
    }

    /** Writes tokens of the kept texts from one place to another one; returns the place behind them. */
    int copyKept(int from, int to, int target) {
      int t = target;
      for (int k = from; k < to && t < SPAN; k++) {
        token[t] = kept[k];
        t++;
      }
      return t;
    }

    void mark(int place, int number) {
      if (place >= 0 && place < SPAN) marks[place] |= 1 << number;
    }

    boolean isWell() {
      for (int k = 0; k < SPAN; k++) {
        if (marks[k] != 0) return false;
      }
      return true;
    }

    int faultCount(int unit) {
      int sum = 0;
      for (int k = unit * ROW; k < unit * ROW + ROW; k++) sum += Integer.bitCount(marks[k]);
      return sum;
    }

    int faultOf(int unit, int k, int what) {
      int ahead = 0;
      for (int place = 0; place < ROW; place++) {
        int here = marks[unit * ROW + place];
        for (int number = 1; number < FAULTS && here != 0; number++) {
          if ((here >> number & 1) == 0) continue;
          if (ahead == k) return what == 0 ? number : place;
          ahead++;
        }
      }
      return NONE;
    }

    int smallestAt(int place) {
      for (int number = 1; number < FAULTS; number++) {
        if ((marks[place] >> number & 1) != 0) return number;
      }
      return 0;
    }

    // ---- reading a unit from its first token on

    void open(int unit) {
      base = unit * ROW;
      at = 0;
      end = many[unit];
      open = 0;
      bad = NONE;
      zone = NONE;
      loop = NONE;
    }

    int here() {
      return base + at;
    }

    /** The token that stands so many places behind the next one; NONE behind the last one, and behind a fault. */
    int peek(int ahead) {
      return bad == NONE && at + ahead < end ? token[base + at + ahead] : NONE;
    }

    boolean is(int token) {
      return peek(0) == token;
    }

    boolean fail() {
      if (bad == NONE) bad = at;
      return false;
    }

    boolean take(int token) {
      boolean opens = token == OPEN || token == OPEN_BRACE;
      boolean good = bad == NONE && at < end && this.token[base + at] == token && !(opens && open == MOST_OPEN);
      if (opens) open++;
      if (token == CLOSE || token == CLOSE_BRACE) open--;
      if (good) at++;
      else if (bad == NONE) bad = at;
      return good;
    }

    boolean takeName() {
      return step(isName(peek(0)));
    }

    /** Takes a KIND, or a REF alone. */
    boolean takeKind(boolean refAlone) {
      int next = peek(0);
      return step(isRef(next) || !refAlone && isPlainKind(next));
    }

    private boolean step(boolean good) {
      if (good) at++;
      else if (bad == NONE) bad = at;
      return good;
    }
  }

  /** The EXPRS of all units by their SIGNS, the STATEMENTS by their first tokens, and the script of all bodies. */
  private static final class Tree {
    final int[] sort = new int[SPAN];
    final int[] left = new int[SPAN];
    final int[] right = new int[SPAN];
    // The third part of ? : ; of a call its first argument (right is the last one then).
    final int[] third = new int[SPAN];
    final int[] next = new int[SPAN];
    final int[] many = new int[SPAN];
    // Of an argument the call.
    final int[] up = new int[SPAN];
    final int[] flags = new int[SPAN];
    final int[] work = new int[SPAN];
    // Of a STATEMENT its EXPR; of a catch its try.
    final int[] root = new int[SPAN];
    // Of a LOCAL its variable; of a loop, break or continue the loop around it; of a try, and of each catch, the next catch.
    final int[] held = new int[SPAN];
    // The try in which it stands, times 4, and in which part of that; NONE outside of all.
    final int[] zone = new int[SPAN];
    // Where the script goes on: see Parser and Machine.
    final int[] jump = new int[SPAN];
    final int[] other = new int[SPAN];
    final int[] more = new int[SPAN];
    final int[] what = new int[SCRIPT];
    final int[] place = new int[SCRIPT];
    int length;

    void clear() {
      length = 0;
      emit(EV_STATICS, 0);
      emit(EV_MAIN, 0);
      emit(EV_STOP, 0);
    }

    void clearUnit(int unit) {
      Arrays.fill(sort, unit * ROW, unit * ROW + ROW, 0);
      Arrays.fill(work, unit * ROW, unit * ROW + ROW, 0);
      Arrays.fill(flags, unit * ROW, unit * ROW + ROW, 0);
    }

    void emit(int what, int place) {
      if (length >= SCRIPT) return;
      this.what[length] = what;
      this.place[length] = place;
      length++;
    }

    void node(int at, int sort, int left, int right, int zone) {
      this.sort[at] = sort;
      this.left[at] = left;
      this.right[at] = right;
      this.third[at] = NONE;
      this.next[at] = NONE;
      this.many[at] = 0;
      this.up[at] = NONE;
      this.zone[at] = zone;
    }

    void argument(int call, int arg) {
      if (third[call] == NONE) third[call] = arg;
      else next[right[call]] = arg;
      right[call] = arg;
      up[arg] = call;
      many[call]++;
      emit(EV_ARG, arg);
    }

    void begin(int at, int work, int zone) {
      this.work[at] = work;
      this.root[at] = NONE;
      this.held[at] = NONE;
      this.zone[at] = zone;
      if (work != W_CATCH) emit(EV_BEGIN, at);
    }

    /** Whether a node is asked for its value (what stands left of = is not). */
    boolean isAsked(int at) {
      return (flags[at] & N_TARGET) == 0 || (flags[at] & N_READ) != 0;
    }
  }

  /** A TYPE. */
  private static final class Type {
    int at;
    int flags;
    int firstMember;
    int lastMember;
    int firstRef;
    int refs;
    int firstAbove;
    int aboves;
    int firstMethod;
    int methods;
    int slots;

    boolean is(int flag) {
      return (flags & flag) != 0;
    }
  }

  /** A FIELD, METHOD or CONSTRUCTOR; or a PARAM, LOCAL or NAME of a catch. */
  private static final class Decl {
    int sort;
    int flags;
    int at;
    int kindAt;
    int kind;
    // Of a member the type; its first and last token; its body, from "{" to "}", or from behind = to ";".
    int owner;
    int start;
    int from;
    int to;
    int firstVar;
    int params;
    int lastVar;
    int firstThrow;
    int throwing;
    int script;
    int scriptEnd;
    // What stands behind = of a FIELD; where an object holds it.
    int root;
    int slot;
    boolean fixed;
    long value;

    boolean is(int flag) {
      return (flags & flag) != 0;
    }

    void begin(int sort, int flags, int at, int kindAt) {
      this.sort = sort;
      this.flags = flags;
      this.at = at;
      this.kindAt = kindAt;
      kind = NO_KIND;
      owner = NONE;
      start = NONE;
      from = NONE;
      to = NONE;
      firstVar = 0;
      params = 0;
      lastVar = 0;
      firstThrow = 0;
      throwing = 0;
      script = 0;
      scriptEnd = 0;
      root = NONE;
      slot = 0;
      fixed = false;
      value = 0;
    }
  }

  /** All types and members, variables and REFS of the world; how they are found and how they are written. */
  private static final class World {
    final Rows rows;
    final Type[] types = new Type[MOST_TYPES];
    final Decl[] members = new Decl[MOST_MEMBERS];
    final Decl[] vars = new Decl[MOST_VARS];
    int typeCount;
    int memberCount;
    int varCount;
    // REFS by their places, with their roles, and where in here the list begins to which they belong.
    final int[] refAt = new int[SPAN];
    final int[] refRole = new int[SPAN];
    final int[] refList = new int[SPAN];
    int refCount;
    final int[] packages = new int[UNITS];
    final int[] imports = new int[UNITS];
    // What each NAME means as a REF in each unit.
    final int[] means = new int[UNITS * NAMES];
    final int[] above = new int[4 * MOST_TYPES];
    int aboveCount;
    // A row of bits for each type: the types of which it is a subtype, but itself.
    final long[] up = new long[4 * MOST_TYPES];
    final int[] methods = new int[8192];
    int methodCount;
    final StringBuilder text = new StringBuilder();
    final char[] digits = new char[20];

    World(Rows rows) {
      this.rows = rows;
      for (int t = 0; t < MOST_TYPES; t++) types[t] = new Type();
      for (int m = 0; m < MOST_MEMBERS; m++) members[m] = new Decl();
      for (int v = 0; v < MOST_VARS; v++) vars[v] = new Decl();
    }

    void clear() {
      typeCount = 0;
      memberCount = 0;
      varCount = 0;
      refCount = 0;
      for (int t = 0; t < KNOWN_TYPES; t++) addType(NONE, 0);
    }

    int addType(int at, int flags) {
      if (typeCount >= MOST_TYPES) return MOST_TYPES - 1;
      Type type = types[typeCount];
      type.at = at;
      type.flags = flags;
      type.firstMember = memberCount;
      type.lastMember = memberCount;
      type.firstRef = refCount;
      type.refs = 0;
      type.firstAbove = 0;
      type.aboves = 0;
      type.firstMethod = 0;
      type.methods = 0;
      type.slots = 0;
      typeCount++;
      return typeCount - 1;
    }

    int addMember(int sort, int flags, int at, int kindAt) {
      if (memberCount >= MOST_MEMBERS) return MOST_MEMBERS - 1;
      Decl m = members[memberCount];
      m.begin(sort, flags, at, kindAt);
      m.owner = typeCount - 1;
      m.firstVar = varCount;
      m.lastVar = varCount;
      m.firstThrow = refCount;
      memberCount++;
      return memberCount - 1;
    }

    int addVar(int sort, int flags, int at, int kindAt) {
      if (varCount >= MOST_VARS) return MOST_VARS - 1;
      Decl v = vars[varCount];
      v.begin(sort, flags, at, kindAt);
      v.from = sort == D_PARAM ? 0 : at + 1;
      v.to = SPAN;
      varCount++;
      return varCount - 1;
    }

    void addRef(int at, int role, int list) {
      if (refCount >= SPAN) return;
      refAt[refCount] = at;
      refRole[refCount] = role;
      refList[refCount] = list;
      refCount++;
    }

    void addMethod(int t, int m) {
      if (methodCount >= methods.length) return;
      methods[methodCount] = m;
      methodCount++;
      types[t].methods++;
    }

    // ---- how they are found

    int firstTypeOf(int unit) {
      int t = KNOWN_TYPES;
      while (t < typeCount && types[t].at < unit * ROW) t++;
      return t;
    }

    int typesOf(int unit) {
      int many = 0;
      for (int t = KNOWN_TYPES; t < typeCount; t++) {
        if (types[t].at / ROW == unit) many++;
      }
      return many;
    }

    /** The place of the second NAME of an import. */
    int importAt(int unit, int k) {
      return unit * ROW + (packages[unit] == NONE ? 0 : 3) + 5 * k + 3;
    }

    /** The first type of a package (0 to 39, or NONE) with that name, by its token. */
    int typeNamed(int inPackage, int name) {
      for (int t = KNOWN_TYPES; t < typeCount; t++) {
        int at = types[t].at;
        if (rows.token[at] == name && packages[at / ROW] == inPackage) return t;
      }
      return NONE;
    }

    /** The type that the REF at a place means; NONE if it means nothing. */
    int typeAt(int at) {
      int token = rows.token[at];
      if (token >= FIRST_KNOWN && token <= LAST_KNOWN) return token - FIRST_KNOWN;
      boolean isName = token >= FIRST_NAME && token < FIRST_NAME + NAMES;
      return isName ? means[at / ROW * NAMES + token - FIRST_NAME] : NONE;
    }

    /** The kind that the token at a place means. */
    int kindAt(int at) {
      switch (rows.token[at]) {
        case VOID: return K_VOID;
        case BOOLEAN: return K_BOOLEAN;
        case BYTE: return K_BYTE;
        case INT: return K_INT;
        case LONG: return K_LONG;
        default:
          int t = typeAt(at);
          return t == NONE ? NO_KIND : K_REF + t;
      }
    }

    boolean under(int one, int two) {
      return one == two || two == T_OBJECT || (up[4 * one + two / 64] >> two % 64 & 1) != 0;
    }

    boolean isChecked(int t) {
      return under(t, T_THROW) && !under(t, T_SLIP);
    }

    boolean isInterface(int t) {
      return (types[t].flags & IS_INTERFACE) != 0;
    }

    /** The class above a class. */
    int superOf(int t) {
      return types[t].aboves == 0 ? T_OBJECT : above[types[t].firstAbove];
    }

    /** Whether a member is one of its type: of that sort, and not twice. */
    boolean isOwn(int m, int sort) {
      return members[m].sort == sort && (members[m].flags & IS_TWICE) == 0;
    }

    int ownMembers(int t, int sort) {
      int many = 0;
      for (int m = types[t].firstMember; m < types[t].lastMember; m++) {
        if (isOwn(m, sort)) many++;
      }
      return many;
    }

    int abstractMethods(int t) {
      int many = 0;
      for (int k = 0; k < types[t].methods; k++) {
        if (members[methods[types[t].firstMethod + k]].is(IS_ABSTRACT)) many++;
      }
      return many;
    }

    /** The member whose name stands at a place. */
    int memberAt(int at) {
      for (int m = 0; m < memberCount; m++) {
        if (members[m].at == at && members[m].sort != D_UNSAID) return m;
      }
      return NONE;
    }

    /** The method or constructor in whose body a place is. */
    int memberAround(int at) {
      for (int m = 0; m < memberCount; m++) {
        if (members[m].from != NONE && members[m].from <= at && at <= members[m].to) return m;
      }
      return NONE;
    }

    /** Of the variables from one to another one that which a name means at a place. */
    int varNamed(int name, int at, int first, int last) {
      for (int v = last - 1; v >= first; v--) {
        if (rows.token[vars[v].at] == name && vars[v].from <= at && at < vars[v].to) return v;
      }
      return NONE;
    }

    int mainOf(int unit) {
      for (int m = 0; m < memberCount; m++) {
        Decl d = members[m];
        if (d.at / ROW == unit && isOwn(m, D_METHOD) && d.is(IS_STATIC) && rows.token[d.at] == NAME_OF_M && d.params == 2
            && vars[d.firstVar].kind == K_INT && vars[d.firstVar + 1].kind == K_INT) return m;
      }
      return NONE;
    }

    boolean sameParams(int one, int two) {
      Decl a = members[one];
      Decl b = members[two];
      if (a.params != b.params) return false;
      for (int k = 0; k < a.params; k++) {
        if (vars[a.firstVar + k].kind != vars[b.firstVar + k].kind) return false;
      }
      return true;
    }

    boolean sameSignature(int one, int two) {
      return rows.token[members[one].at] == rows.token[members[two].at] && sameParams(one, two);
    }

    /** The method of a type that has the signature of another one. */
    int methodLike(int t, int m) {
      for (int k = 0; k < types[t].methods; k++) {
        int own = methods[types[t].firstMethod + k];
        if (own == m || sameSignature(own, m)) return own;
      }
      return NONE;
    }

    boolean isOrdered() {
      for (int a = 0; a < typeCount; a++) {
        for (int b = 0; b < a; b++) {
          if (under(a, b) && under(b, a)) return false;
        }
      }
      return true;
    }

    /** Puts methods and constructors of a type the other way round, into the rows, from what these kept. */
    void turn(int t) {
      int target = types[t].at;
      int source = target;
      int back = types[t].lastMember - 1;
      for (int m = types[t].firstMember; m < types[t].lastMember; m++) {
        Decl d = members[m];
        if (d.sort == D_UNSAID) continue;
        target = rows.copyKept(source, d.start, target);
        source = d.to + 1;
        Decl put = d;
        if (d.sort != D_FIELD) {
          while (back > types[t].firstMember && members[back].sort != D_METHOD && members[back].sort != D_START) back--;
          put = members[back];
          back--;
        }
        target = rows.copyKept(put.start, put.to + 1, target);
      }
    }

    // ---- how they are written

    void begin() {
      text.setLength(0);
    }

    /** A space ahead of each thing but the first one. */
    void gap() {
      if (text.length() > 0) text.append(' ');
    }

    void writeToken(int token) {
      if (isNumber(token)) text.append(token - FIRST_NUMBER);
      else if (isName(token)) text.append(signOf(token - FIRST_NAME));
      else writeWord(token);
    }

    private static char signOf(int name) {
      return (char) (name < 26 ? 'a' + name : 'A' + name - 26);
    }

    private void writeWord(int token) {
      int word = 0;
      for (int k = 0; k < WORDS.length() && word <= token; k++) {
        char c = WORDS.charAt(k);
        if (c == ' ') word++;
        else if (word == token) text.append(c);
      }
    }

    void writeFull(int t) {
      if (t < KNOWN_TYPES) {
        writeWord(FIRST_KNOWN + t);
        return;
      }
      int at = types[t].at;
      int inPackage = packages[at / ROW];
      if (inPackage != NONE) text.append(signOf(inPackage)).append('.');
      text.append(signOf(rows.token[at] - FIRST_NAME));
    }

    void writeKind(int kind) {
      switch (kind) {
        case NO_KIND: text.append('?'); break;
        case K_BOOLEAN: text.append("boolean"); break;
        case K_BYTE: text.append("byte"); break;
        case K_INT: text.append("int"); break;
        case K_LONG: text.append("long"); break;
        case K_NULL: text.append("null"); break;
        case K_VOID: text.append("void"); break;
        default: writeFull(kind - K_REF);
      }
    }

    void writeParams(int m) {
      text.append('(');
      for (int k = 0; k < members[m].params; k++) {
        if (k > 0) text.append(',');
        writeKind(vars[members[m].firstVar + k].kind);
      }
      text.append(')');
    }

    void writeSignature(int m) {
      writeToken(rows.token[members[m].at]);
      writeParams(m);
    }

    void writeField(int f) {
      writeFull(members[f].owner);
      text.append('.');
      writeToken(rows.token[members[f].at]);
    }

    /** A value of a kind that is no REF. */
    void writeValue(long value, int kind) {
      if (kind == K_BOOLEAN) text.append(value != 0 ? "true" : "false");
      else writeDigits(value);
    }

    void writeDigits(long value) {
      int many = 0;
      // Below 0 on purpose: the smallest long has no counterpart above.
      long left = value < 0 ? value : -value;
      for (int k = 0; k < digits.length && (k == 0 || left != 0); k++) {
        digits[k] = (char) ('0' - left % 10);
        left /= 10;
        many++;
      }
      if (value < 0) text.append('-');
      for (int k = many - 1; k >= 0; k--) text.append(digits[k]);
    }
  }

  /**
   * Reads a unit. What waits to be gone on with stands on a stack of states, and so do the parts of an EXPR that
   * are not complete: so nothing here calls itself, however deep a text goes.
   */
  private static final class Parser {
    private static final int HEAD = 0, TYPES = 1, CLASS_BODY = 2, INTERFACE_BODY = 3, FIELD_END = 4, PARAMS = 5;
    private static final int METHOD_HEAD = 6, START_HEAD = 7, START_END = 8, METHOD_END = 9;
    private static final int ITEMS = 10, LOCAL_HEAD = 11, STATEMENT = 12, BLOCK_END = 13, LOCAL_END = 14;
    private static final int PLAIN_END = 15, WORD_END = 16, IF_TEST = 17, THEN_END = 18, ELSE_END = 19;
    private static final int WHILE_TEST = 20, LOOP_END = 21, DO_BODY = 22, DO_TEST = 23, TRIED_END = 24, CATCHES = 25;
    private static final int CAUGHT_END = 26, FINALLY_END = 27, EXPR = 28;
    // Entries of an EXPR that is not complete; one of LEVEL_SHUT is left by its own sign alone.
    private static final int X_UNARY = 1, X_BINARY = 2, X_ASK = 3, X_ELSE = 4, X_SET = 5, X_GROUP = 6, X_ARGS = 7;
    private static final int LEVEL_UNARY = 7, LEVEL_AND = 2, LEVEL_OR = 1, LEVEL_ELSE = 0, LEVEL_SET = -1;
    private static final int LEVEL_SHUT = -2, MOST_UNARIES = 8;
    private static final int TURNS = 10000;

    final Rows rows;
    final Tree tree;
    final World world;
    final int[] states = new int[DEEPEST];
    final int[] places = new int[DEEPEST];
    // Of a BLOCK that is open the first variable that it may have.
    final int[] firstVars = new int[DEEPEST];
    int depth;
    final int[] entries = new int[ROW];
    final int[] entryAt = new int[ROW];
    final int[] levels = new int[ROW];
    int size;
    final int[] operands = new int[ROW];
    int many;
    boolean wants;
    boolean mayDot;
    boolean done;
    int root;

    Parser(Rows rows, Tree tree, World world) {
      this.rows = rows;
      this.tree = tree;
      this.world = world;
    }

    void parse(int unit) {
      int types = world.typeCount;
      int members = world.memberCount;
      int vars = world.varCount;
      int refs = world.refCount;
      int length = tree.length;
      rows.open(unit);
      tree.clearUnit(unit);
      depth = 0;
      push(HEAD, unit);
      for (int turn = 0; turn < TURNS && depth > 0 && rows.bad == NONE; turn++) {
        int state = states[depth - 1];
        int at = places[depth - 1];
        if (state == EXPR) {
          if (done) depth--;
          else if (wants) operand();
          else sign();
        } else if (state < ITEMS) {
          goOnWithMember(state, at);
        } else if (state < WHILE_TEST) {
          goOnWithItem(state, at);
        } else {
          goOnWithLoop(state, at);
        }
      }
      if (rows.bad == NONE) return;
      world.typeCount = types;
      world.memberCount = members;
      world.varCount = vars;
      world.refCount = refs;
      world.packages[unit] = NONE;
      world.imports[unit] = 0;
      tree.length = length;
      tree.clearUnit(unit);
      rows.mark(unit * ROW + rows.bad, F_SYNTAX);
    }

    private void push(int state, int place) {
      if (depth >= DEEPEST) return;
      states[depth] = state;
      places[depth] = place;
      firstVars[depth] = world.varCount;
      depth++;
    }

    private void become(int state) {
      states[depth - 1] = state;
    }

    // ---- units, types, members

    private void goOnWithMember(int state, int at) {
      switch (state) {
        case HEAD:
          become(TYPES);
          head(at);
          break;
        case TYPES:
          if (rows.at == rows.end) depth--;
          else typeHead();
          break;
        case CLASS_BODY:
          if (rows.is(CLOSE_BRACE)) typeEnd(at);
          else member();
          break;
        case INTERFACE_BODY:
          if (rows.is(CLOSE_BRACE)) typeEnd(at);
          else slot();
          break;
        case FIELD_END:
          fieldEnd(at);
          break;
        case PARAMS:
          depth--;
          params(world.members[at]);
          break;
        case METHOD_HEAD:
          methodHead(at);
          break;
        case START_HEAD:
          startHead(world.members[at]);
          break;
        case START_END:
          depth--;
          if (rows.take(SEMICOLON) && rows.token[at] == SUPER) tree.emit(EV_FIELDS, world.typeCount - 1);
          break;
        default:
          methodEnd(world.members[at]);
      }
    }

    private void head(int unit) {
      world.packages[unit] = NONE;
      world.imports[unit] = 0;
      if (rows.is(PACKAGE)) {
        int name = rows.peek(1);
        if (rows.take(PACKAGE) && rows.takeName() && rows.take(SEMICOLON)) world.packages[unit] = name - FIRST_NAME;
      }
      for (int k = 0; k < MOST_TOKENS && rows.is(IMPORT); k++) {
        if (rows.take(IMPORT) && rows.takeName() && rows.take(DOT) && rows.takeName() && rows.take(SEMICOLON)) {
          world.imports[unit]++;
        }
      }
    }

    private void typeHead() {
      boolean isAbstract = rows.is(ABSTRACT);
      if (isAbstract) rows.take(ABSTRACT);
      boolean isInterface = !isAbstract && rows.is(INTERFACE);
      int at = rows.here() + 1;
      if (!rows.take(isInterface ? INTERFACE : CLASS) || !rows.takeName()) return;
      int t = world.addType(at, (isAbstract ? IS_ABSTRACT : 0) | (isInterface ? IS_INTERFACE : 0));
      if (rows.is(EXTENDS)) refs(EXTENDS, isInterface ? R_INTERFACE : R_CLASS);
      if (!isInterface && rows.is(IMPLEMENTS)) refs(IMPLEMENTS, R_IMPLEMENTS);
      world.types[t].refs = world.refCount - world.types[t].firstRef;
      rows.take(OPEN_BRACE);
      push(isInterface ? INTERFACE_BODY : CLASS_BODY, t);
    }

    private void refs(int word, int role) {
      rows.take(word);
      int list = world.refCount;
      boolean more = true;
      for (int k = 0; k < MOST_TOKENS && more; k++) {
        int at = rows.here();
        if (!rows.takeKind(true)) return;
        world.addRef(at, role, list);
        more = role != R_CLASS && rows.is(COMMA);
        if (more) rows.take(COMMA);
      }
    }

    private void typeEnd(int t) {
      rows.take(CLOSE_BRACE);
      depth--;
      Type type = world.types[t];
      type.lastMember = world.memberCount;
      if (type.is(IS_INTERFACE) || world.ownMembers(t, D_START) > 0) return;
      Decl m = world.members[world.addMember(D_UNSAID, 0, type.at, NONE)];
      m.script = tree.length;
      tree.emit(EV_SUPER, t);
      tree.emit(EV_FIELDS, t);
      tree.emit(EV_LEAVE, 0);
      m.scriptEnd = tree.length;
      type.lastMember = world.memberCount;
    }

    private void member() {
      int start = rows.here();
      int flags = 0;
      if (isName(rows.peek(0)) && rows.peek(1) == OPEN) {
        rows.takeName();
        methodBegin(world.addMember(D_START, 0, start, NONE), start);
        return;
      }
      if (rows.is(ABSTRACT)) {
        rows.take(ABSTRACT);
        flags = IS_ABSTRACT;
      }
      if (flags == 0 && rows.is(STATIC)) {
        rows.take(STATIC);
        flags = IS_STATIC;
      }
      if (flags != IS_ABSTRACT && rows.is(FINAL)) {
        rows.take(FINAL);
        flags |= IS_FINAL;
      }
      boolean isFinal = (flags & IS_FINAL) != 0;
      int kind = rows.here();
      boolean isVoid = !isFinal && rows.is(VOID);
      if (isVoid) rows.take(VOID);
      else takeKind();
      int name = rows.here();
      if (!rows.takeName()) return;
      if (isVoid || flags == IS_ABSTRACT || !isFinal && rows.is(OPEN)) {
        methodBegin(world.addMember(D_METHOD, flags, name, kind), start);
      } else {
        fieldHead(world.addMember(D_FIELD, flags, name, kind), start);
      }
    }

    private void slot() {
      int start = rows.here();
      boolean isVoid = rows.is(VOID);
      if (isVoid) rows.take(VOID);
      else takeKind();
      int name = rows.here();
      if (!rows.takeName()) return;
      if (isVoid || rows.is(OPEN)) methodBegin(world.addMember(D_METHOD, IS_ABSTRACT, name, start), start);
      else if (rows.is(SET)) fieldHead(world.addMember(D_FIELD, IS_STATIC | IS_FINAL, name, start), start);
      else rows.fail();
    }

    private void takeKind() {
      int at = rows.here();
      if (rows.takeKind(false) && isName(rows.token[at])) world.addRef(at, R_PLAIN, NONE);
    }

    private void fieldHead(int m, int start) {
      Decl field = world.members[m];
      field.start = start;
      if (rows.is(SET)) {
        rows.take(SET);
        field.flags |= HAS_VALUE;
        field.from = rows.here();
        field.script = tree.length;
        push(FIELD_END, m);
        beginExpr();
      } else {
        field.to = rows.here();
        rows.take(SEMICOLON);
      }
    }

    private void fieldEnd(int m) {
      Decl field = world.members[m];
      field.root = root;
      field.to = rows.here();
      rows.take(SEMICOLON);
      tree.emit(EV_FIELD_END, m);
      field.scriptEnd = tree.length;
      depth--;
    }

    private void methodBegin(int m, int start) {
      world.members[m].start = start;
      push(METHOD_HEAD, m);
      push(PARAMS, m);
    }

    private void params(Decl method) {
      rows.take(OPEN);
      boolean more = !rows.is(CLOSE);
      for (int k = 0; k < MOST_TOKENS && more; k++) {
        int kind = rows.here();
        takeKind();
        int name = rows.here();
        if (!rows.takeName()) return;
        world.addVar(D_PARAM, 0, name, kind);
        more = rows.is(COMMA);
        if (more) rows.take(COMMA);
      }
      method.params = world.varCount - method.firstVar;
      method.lastVar = world.varCount;
      rows.take(CLOSE);
    }

    private void methodHead(int m) {
      Decl method = world.members[m];
      method.firstThrow = world.refCount;
      if (rows.is(THROWS)) refs(THROWS, R_THROWS);
      method.throwing = world.refCount - method.firstThrow;
      if (method.is(IS_ABSTRACT)) {
        method.to = rows.here();
        rows.take(SEMICOLON);
        depth--;
        return;
      }
      rows.loop = NONE;
      rows.zone = NONE;
      method.from = rows.here();
      method.script = tree.length;
      become(METHOD_END);
      block();
      if (method.sort == D_START) push(START_HEAD, m);
    }

    /** What a constructor begins with: this or super ARGS, or super ( ) unsaid. */
    private void startHead(Decl method) {
      int word = rows.peek(0);
      int at = rows.here();
      if ((word == THIS || word == SUPER) && rows.peek(1) == OPEN) {
        method.flags |= HAS_START;
        depth--;
        push(START_END, at);
        beginExpr();
        rows.take(word);
        args(at, E_START, NONE);
      } else {
        tree.emit(EV_SUPER, world.typeCount - 1);
        tree.emit(EV_FIELDS, world.typeCount - 1);
        depth--;
      }
    }

    private void methodEnd(Decl method) {
      method.to = rows.here() - 1;
      method.lastVar = world.varCount;
      tree.emit(EV_LEAVE, method.to);
      method.scriptEnd = tree.length;
      depth--;
    }

    // ---- blocks and statements

    private void goOnWithItem(int state, int at) {
      switch (state) {
        case ITEMS:
          if (rows.is(CLOSE_BRACE)) closeBlock();
          else push(beginsLocal() ? LOCAL_HEAD : STATEMENT, 0);
          break;
        case LOCAL_HEAD:
          depth--;
          local();
          break;
        case STATEMENT:
          depth--;
          statement();
          break;
        case BLOCK_END:
          end(at);
          break;
        case LOCAL_END:
          exprEnd(at, EV_LOCAL);
          break;
        case PLAIN_END:
          exprEnd(at, EV_PLAIN);
          break;
        case WORD_END:
          exprEnd(at, rows.token[at] == RETURN ? EV_RETURN : rows.token[at] == THROW ? EV_THROW : EV_TELL);
          break;
        case IF_TEST:
          testEnd(at, EV_IF, THEN_END);
          break;
        case THEN_END:
          thenEnd(at);
          break;
        default:
          ifEnd(at);
      }
    }

    private void goOnWithLoop(int state, int at) {
      switch (state) {
        case WHILE_TEST:
          testEnd(at, EV_LOOP, LOOP_END);
          break;
        case LOOP_END:
          loopEnd(at, EV_WHILE_END);
          break;
        case DO_BODY:
          rows.take(WHILE);
          rows.take(OPEN);
          tree.more[at] = tree.length;
          tree.emit(EV_DO_TEST, at);
          become(DO_TEST);
          beginExpr();
          break;
        case DO_TEST:
          tree.root[at] = root;
          rows.take(CLOSE);
          rows.take(SEMICOLON);
          loopEnd(at, EV_DO_END);
          break;
        case TRIED_END:
          tree.emit(EV_TRIED, at);
          become(CATCHES);
          break;
        case CATCHES:
          if (rows.is(CATCH)) catchHead(at);
          else if (rows.is(FINALLY)) finallyHead(at);
          else if (tree.held[at] == NONE) rows.fail();
          else tryEnd(at);
          break;
        case CAUGHT_END:
          world.vars[tree.more[at]].to = rows.here() - 1;
          tree.emit(EV_CAUGHT, at);
          depth--;
          break;
        default:
          tryEnd(at);
      }
    }

    private void end(int at) {
      tree.emit(EV_END, at);
      depth--;
    }

    private void exprEnd(int at, int event) {
      tree.root[at] = root;
      rows.take(SEMICOLON);
      tree.emit(event, at);
      end(at);
    }

    private void testEnd(int at, int event, int state) {
      tree.root[at] = root;
      rows.take(CLOSE);
      tree.emit(event, at);
      become(state);
      push(STATEMENT, 0);
    }

    private void block() {
      int at = rows.here();
      rows.take(OPEN_BRACE);
      tree.emit(EV_BLOCK, at);
      push(ITEMS, at);
    }

    private void closeBlock() {
      int at = rows.here();
      rows.take(CLOSE_BRACE);
      depth--;
      for (int v = firstVars[depth]; v < world.varCount; v++) {
        if (world.vars[v].to == SPAN) world.vars[v].to = at;
      }
      tree.emit(EV_BLOCK_END, at);
    }

    private boolean beginsLocal() {
      int next = rows.peek(0);
      return next == FINAL || isPlainKind(next) || isKnown(next) || isName(next) && isName(rows.peek(1));
    }

    private void local() {
      int at = rows.here();
      tree.begin(at, W_LOCAL, rows.zone);
      int flags = 0;
      if (rows.is(FINAL)) {
        rows.take(FINAL);
        flags = IS_FINAL;
      }
      int kind = rows.here();
      takeKind();
      int name = rows.here();
      if (!rows.takeName()) return;
      int v = world.addVar(D_LOCAL, flags, name, kind);
      tree.held[at] = v;
      if (rows.is(SET)) {
        rows.take(SET);
        world.vars[v].flags |= HAS_VALUE;
        push(LOCAL_END, at);
        beginExpr();
      } else {
        rows.take(SEMICOLON);
        world.vars[v].from = rows.here();
        tree.emit(EV_LOCAL, at);
        tree.emit(EV_END, at);
      }
    }

    private void statement() {
      int at = rows.here();
      int word = rows.peek(0);
      tree.begin(at, workOf(word), rows.zone);
      switch (word) {
        case OPEN_BRACE:
          push(BLOCK_END, at);
          block();
          break;
        case SEMICOLON:
          rows.take(SEMICOLON);
          tree.emit(EV_END, at);
          break;
        case IF:
          rows.take(IF);
          rows.take(OPEN);
          push(IF_TEST, at);
          beginExpr();
          break;
        case WHILE:
          whileHead(at);
          break;
        case DO:
          doHead(at);
          break;
        case BREAK:
        case CONTINUE:
          jump(at, word);
          break;
        case RETURN:
        case THROW:
        case TELL:
          word(at, word);
          break;
        case TRY:
          tryHead(at);
          break;
        default:
          push(PLAIN_END, at);
          beginExpr();
      }
    }

    private static int workOf(int word) {
      switch (word) {
        case OPEN_BRACE: return W_BLOCK;
        case SEMICOLON: return W_EMPTY;
        case IF: return W_IF;
        case WHILE: return W_WHILE;
        case DO: return W_DO;
        case BREAK: return W_BREAK;
        case CONTINUE: return W_CONTINUE;
        case RETURN: return W_RETURN;
        case THROW: return W_THROW;
        case TELL: return W_TELL;
        case TRY: return W_TRY;
        default: return W_PLAIN;
      }
    }

    private void jump(int at, int word) {
      tree.held[at] = rows.loop;
      rows.take(word);
      rows.take(SEMICOLON);
      tree.emit(word == BREAK ? EV_BREAK : EV_CONTINUE, at);
      tree.emit(EV_END, at);
    }

    private void word(int at, int word) {
      rows.take(word);
      if (word == RETURN && rows.is(SEMICOLON)) {
        rows.take(SEMICOLON);
        tree.emit(EV_RETURN, at);
        tree.emit(EV_END, at);
      } else {
        push(WORD_END, at);
        beginExpr();
      }
    }

    private void thenEnd(int at) {
      tree.jump[at] = tree.length;
      if (rows.is(ELSE)) {
        rows.take(ELSE);
        tree.emit(EV_ELSE, at);
        become(ELSE_END);
        push(STATEMENT, 0);
      } else {
        ifEnd(at);
      }
    }

    private void ifEnd(int at) {
      tree.other[at] = tree.length;
      tree.emit(EV_IF_END, at);
      end(at);
    }

    private void whileHead(int at) {
      tree.held[at] = rows.loop;
      rows.loop = at;
      rows.take(WHILE);
      rows.take(OPEN);
      tree.jump[at] = tree.length;
      tree.emit(EV_WHILE, at);
      push(WHILE_TEST, at);
      beginExpr();
    }

    private void doHead(int at) {
      tree.held[at] = rows.loop;
      rows.loop = at;
      rows.take(DO);
      tree.jump[at] = tree.length;
      tree.emit(EV_DO, at);
      push(DO_BODY, at);
      push(STATEMENT, 0);
    }

    private void loopEnd(int at, int event) {
      tree.other[at] = tree.length;
      tree.emit(event, at);
      rows.loop = tree.held[at];
      end(at);
    }

    private void tryHead(int at) {
      tree.other[at] = NONE;
      rows.zone = 4 * at + IN_TRIED;
      rows.take(TRY);
      tree.emit(EV_TRY, at);
      push(TRIED_END, at);
      block();
    }

    private void catchHead(int at) {
      int c = rows.here();
      tree.begin(c, W_CATCH, tree.zone[at]);
      tree.root[c] = at;
      int last = at;
      for (int k = 0; k < MOST_TOKENS && tree.held[last] != NONE; k++) last = tree.held[last];
      tree.held[last] = c;
      rows.zone = 4 * at + IN_CATCH;
      rows.take(CATCH);
      rows.take(OPEN);
      int ref = rows.here();
      if (!rows.takeKind(true)) return;
      world.addRef(ref, R_CATCH, NONE);
      if (!rows.takeName()) return;
      tree.more[c] = world.addVar(D_CATCH, 0, ref + 1, ref);
      rows.take(CLOSE);
      tree.jump[c] = tree.length;
      tree.emit(EV_CATCH, c);
      push(CAUGHT_END, c);
      block();
    }

    private void finallyHead(int at) {
      rows.zone = 4 * at + IN_FINALLY;
      rows.take(FINALLY);
      tree.other[at] = tree.length;
      tree.emit(EV_FINALLY, at);
      become(FINALLY_END);
      block();
    }

    private void tryEnd(int at) {
      tree.jump[at] = tree.length;
      tree.emit(EV_TRY_END, at);
      rows.zone = tree.zone[at];
      end(at);
    }

    // ---- EXPRS

    private void beginExpr() {
      push(EXPR, 0);
      size = 0;
      many = 0;
      wants = true;
      mayDot = false;
      done = false;
    }

    private void operand() {
      int at = rows.here();
      int next = rows.peek(0);
      switch (next) {
        case TRUE:
        case FALSE:
          leaf(at, E_TRUTH);
          break;
        case NULL:
          leaf(at, E_NULL);
          break;
        case THIS:
          leaf(at, E_THIS);
          break;
        case SUPER:
          superName();
          break;
        case NEW:
          made(at);
          break;
        case MINUS:
        case NOT:
          if (unaries() >= MOST_UNARIES) rows.fail();
          rows.take(next);
          enter(X_UNARY, at, LEVEL_UNARY);
          break;
        case OPEN:
          if (isCast()) cast(at);
          else group(at);
          break;
        case CLOSE:
          if (mayShut()) argsEnd();
          else rows.fail();
          break;
        default:
          if (isName(next) && rows.peek(1) == OPEN) call(at);
          else if (isName(next)) leaf(at, E_NAME);
          else if (isNumber(next)) leaf(at, E_NUMBER);
          else rows.fail();
      }
    }

    private void leaf(int at, int sort) {
      rows.take(rows.token[at]);
      complete(at, sort, NONE, NONE);
      mayDot = true;
    }

    private void call(int at) {
      rows.takeName();
      args(at, E_CALL, NONE);
    }

    private void made(int at) {
      rows.take(NEW);
      if (isName(rows.peek(0))) world.addRef(rows.here(), R_PLAIN, NONE);
      if (rows.takeKind(true)) args(at, E_NEW, NONE);
    }

    private void superName() {
      rows.take(SUPER);
      rows.take(DOT);
      int at = rows.here();
      if (!rows.takeName()) return;
      if (rows.is(OPEN)) {
        args(at, E_SUPER_CALL, NONE);
      } else {
        complete(at, E_SUPER_FIELD, NONE, NONE);
        mayDot = true;
      }
    }

    private void group(int at) {
      int next = rows.peek(1);
      rows.take(OPEN);
      // A KNOWN type here can be that of a cast alone, which this is not: what breaks that is the fault.
      if (isKnown(next) && rows.take(next) && rows.take(CLOSE)) rows.fail();
      enter(X_GROUP, at, LEVEL_SHUT);
    }

    private boolean isCast() {
      int next = rows.peek(1);
      if (isPlainKind(next)) return true;
      if (!isRef(next) || rows.peek(2) != CLOSE) return false;
      int behind = rows.peek(3);
      return behind == OPEN || behind == NOT || behind >= NEW && behind <= FALSE || isNumber(behind) || isRef(behind);
    }

    private void cast(int at) {
      if (unaries() >= MOST_UNARIES) rows.fail();
      rows.take(OPEN);
      takeKind();
      rows.take(CLOSE);
      enter(X_UNARY, at, LEVEL_UNARY);
    }

    /** How many UNARIES have begun of which each stands right within the one ahead. */
    private int unaries() {
      int run = 0;
      while (run < size && entries[size - 1 - run] == X_UNARY) run++;
      return run;
    }

    private void enter(int entry, int at, int level) {
      if (size >= ROW) return;
      entries[size] = entry;
      entryAt[size] = at;
      levels[size] = level;
      size++;
      wants = true;
    }

    private void args(int at, int sort, int receiver) {
      tree.node(at, sort, receiver, NONE, rows.zone);
      tree.emit(EV_BEFORE, at);
      rows.take(OPEN);
      enter(X_ARGS, at, LEVEL_SHUT);
    }

    /** Whether ARGS without an EXPR may end here. */
    private boolean mayShut() {
      return size > 0 && entries[size - 1] == X_ARGS && tree.many[entryAt[size - 1]] == 0;
    }

    private void argsEnd() {
      rows.take(CLOSE);
      size--;
      int at = entryAt[size];
      tree.emit(EV_NODE, at);
      if (many < ROW) {
        operands[many] = at;
        many++;
      }
      wants = false;
      mayDot = true;
      if (tree.sort[at] == E_START) {
        root = at;
        done = true;
      }
    }

    /** A node whose parts are there becomes an operand. */
    private void complete(int at, int sort, int left, int right) {
      tree.node(at, sort, left, right, rows.zone);
      tree.other[at] = tree.length;
      tree.emit(EV_NODE, at);
      if (many < ROW) {
        operands[many] = at;
        many++;
      }
      wants = false;
      mayDot = false;
    }

    private int takeOperand() {
      if (many == 0) return NONE;
      many--;
      return operands[many];
    }

    private void sign() {
      int next = rows.peek(0);
      int level = levelOf(next);
      if (next == DOT && mayDot) {
        dot();
        return;
      }
      reduce(level);
      if (level >= LEVEL_OR && next != ASK) binary(next, level);
      else if (next == ASK) ask();
      else if (level == LEVEL_ELSE) set(next);
      else if (size == 0) finish();
      else if (next == COLON && entries[size - 1] == X_ASK) otherwise();
      else if (next == CLOSE) close();
      else if (next == COMMA && entries[size - 1] == X_ARGS) comma();
      else rows.fail();
    }

    /** What binds at least so strongly is complete, when this token comes. */
    private static int levelOf(int token) {
      switch (token) {
        case SET:
        case ADD_SET: return LEVEL_ELSE;
        case ASK:
        case OR: return LEVEL_OR;
        case AND: return LEVEL_AND;
        case SAME:
        case OTHER: return 3;
        case LESS:
        case LESS_SAME:
        case INSTANCEOF: return 4;
        case PLUS:
        case MINUS: return 5;
        case TIMES:
        case DIVIDE:
        case REST: return 6;
        default: return LEVEL_SET;
      }
    }

    private void dot() {
      int dot = rows.here();
      rows.take(DOT);
      int at = rows.here();
      int receiver = takeOperand();
      if (!rows.takeName() || receiver == NONE) return;
      if (receiver == dot - 1 && tree.sort[receiver] == E_NAME) tree.flags[receiver] |= N_AHEAD;
      if (rows.is(OPEN)) {
        args(at, E_DOT_CALL, receiver);
      } else {
        complete(at, E_FIELD, receiver, NONE);
        mayDot = true;
      }
    }

    private void binary(int token, int level) {
      int at = rows.here();
      rows.take(token);
      if (token == INSTANCEOF) {
        if (isName(rows.peek(0))) world.addRef(rows.here(), R_PLAIN, NONE);
        if (rows.takeKind(true)) complete(at, E_INSTANCE, takeOperand(), NONE);
        // A sign that binds tighter would need the REF for its left part, and that is no UNARY.
        if (levelOf(rows.peek(0)) > level) rows.fail();
      } else {
        if (level <= LEVEL_AND) tree.emit(EV_MIDDLE, at);
        enter(X_BINARY, at, level);
      }
    }

    private void ask() {
      int at = rows.here();
      rows.take(ASK);
      tree.emit(EV_MIDDLE, at);
      enter(X_ASK, at, LEVEL_SHUT);
    }

    private void otherwise() {
      int at = entryAt[size - 1];
      rows.take(COLON);
      tree.jump[at] = tree.length;
      tree.emit(EV_OTHERWISE, at);
      size--;
      enter(X_ELSE, at, LEVEL_ELSE);
    }

    private void set(int token) {
      int at = rows.here();
      rows.take(token);
      if (many > 0) tree.flags[operands[many - 1]] |= token == SET ? N_TARGET : N_TARGET | N_READ;
      enter(X_SET, at, LEVEL_SET);
    }

    private void close() {
      if (entries[size - 1] == X_GROUP) {
        rows.take(CLOSE);
        size--;
        mayDot = true;
      } else if (entries[size - 1] == X_ARGS) {
        tree.argument(entryAt[size - 1], takeOperand());
        argsEnd();
      } else {
        rows.fail();
      }
    }

    private void comma() {
      tree.argument(entryAt[size - 1], takeOperand());
      rows.take(COMMA);
      wants = true;
    }

    private void finish() {
      root = takeOperand();
      done = true;
    }

    private void reduce(int level) {
      for (int k = 0; k < ROW && size > 0 && levels[size - 1] >= level; k++) {
        size--;
        int at = entryAt[size];
        int right = takeOperand();
        switch (entries[size]) {
          case X_UNARY:
            complete(at, rows.token[at] == MINUS ? E_MINUS : rows.token[at] == NOT ? E_NOT : E_CAST, right, NONE);
            break;
          case X_BINARY:
            complete(at, binarySort(rows.token[at]), takeOperand(), right);
            break;
          case X_ELSE:
            int middle = takeOperand();
            complete(at, E_CHOICE, takeOperand(), middle);
            tree.third[at] = right;
            break;
          default:
            complete(at, rows.token[at] == SET ? E_SET : E_ADD_SET, takeOperand(), right);
        }
      }
    }

    private static int binarySort(int token) {
      switch (token) {
        case OR:
        case AND: return E_LOGIC;
        case SAME:
        case OTHER: return E_SAME;
        case LESS:
        case LESS_SAME: return E_COMPARE;
        default: return E_ARITHMETIC;
      }
    }
  }

  /** Finds what REFS mean, what stands above each type, and the methods of each; tells the faults of these. */
  private static final class Linker {
    final Rows rows;
    final World world;
    // For searches through the types above one.
    final int[] queue = new int[MOST_TYPES];
    final int[] seen = new int[MOST_TYPES];
    int search;

    Linker(Rows rows, World world) {
      this.rows = rows;
      this.world = world;
    }

    void link() {
      for (int unit = 0; unit < UNITS; unit++) {
        giveMeanings(unit);
        checkImports(unit);
      }
      checkTypeNames();
      findAbove();
      checkRefs();
      for (int m = 0; m < world.memberCount; m++) giveKind(world.members[m]);
      for (int v = 0; v < world.varCount; v++) giveKind(world.vars[v]);
      for (int t = KNOWN_TYPES; t < world.typeCount; t++) checkMemberNames(t);
    }

    private void giveMeanings(int unit) {
      for (int name = 0; name < NAMES; name++) {
        int own = world.typeNamed(world.packages[unit], FIRST_NAME + name);
        int imported = isOwnName(unit, FIRST_NAME + name) ? NONE : importOf(unit, FIRST_NAME + name);
        world.means[unit * NAMES + name] = imported == NONE ? own : imported;
      }
    }

    /** Whether a unit has a type of that name itself. */
    private boolean isOwnName(int unit, int name) {
      for (int t = KNOWN_TYPES; t < world.typeCount; t++) {
        int at = world.types[t].at;
        if (at / ROW == unit && rows.token[at] == name) return true;
      }
      return false;
    }

    /** What the first import of a name means. */
    private int importOf(int unit, int name) {
      for (int k = 0; k < world.imports[unit]; k++) {
        int at = world.importAt(unit, k);
        if (rows.token[at] == name) return world.typeNamed(rows.token[at - 2] - FIRST_NAME, name);
      }
      return NONE;
    }

    private void checkImports(int unit) {
      for (int k = 0; k < world.imports[unit]; k++) {
        int at = world.importAt(unit, k);
        int name = rows.token[at];
        boolean twice = isOwnName(unit, name);
        for (int j = 0; j < k; j++) twice |= rows.token[world.importAt(unit, j)] == name;
        if (twice) rows.mark(at, F_TWICE);
        if (world.typeNamed(rows.token[at - 2] - FIRST_NAME, name) == NONE) rows.mark(at, F_UNKNOWN);
      }
    }

    private void checkTypeNames() {
      for (int t = KNOWN_TYPES; t < world.typeCount; t++) {
        int at = world.types[t].at;
        if (world.typeNamed(world.packages[at / ROW], rows.token[at]) != t) rows.mark(at, F_TWICE);
      }
    }

    // ---- what stands above

    private void findAbove() {
      listAbove();
      closeUp();
      boolean cycles = false;
      for (int t = KNOWN_TYPES; t < world.typeCount; t++) {
        if ((world.up[4 * t + t / 64] >> t % 64 & 1) == 0) continue;
        world.types[t].flags |= IS_CYCLE;
        rows.mark(world.types[t].at, F_CYCLE);
        cycles = true;
      }
      if (!cycles) return;
      listAbove();
      closeUp();
    }

    private void listAbove() {
      world.aboveCount = 0;
      for (int t = 0; t < world.typeCount; t++) {
        Type type = world.types[t];
        type.firstAbove = world.aboveCount;
        type.aboves = 0;
        if (t < KNOWN_TYPES) {
          if (t != T_OBJECT) putAbove(type, t <= T_THROW ? T_OBJECT : t == T_SLIP ? T_THROW : T_SLIP);
          continue;
        }
        int first = type.refs > 0 && world.refRole[type.firstRef] == R_CLASS ? goodAbove(type.firstRef) : NONE;
        if (type.is(IS_CYCLE)) first = NONE;
        if (!type.is(IS_INTERFACE)) putAbove(type, first == NONE ? T_OBJECT : first);
        for (int k = 0; k < type.refs && !type.is(IS_CYCLE); k++) {
          int ref = type.firstRef + k;
          int above = world.refRole[ref] == R_CLASS || isAgain(ref) ? NONE : goodAbove(ref);
          if (above != NONE) putAbove(type, above);
        }
      }
    }

    private void putAbove(Type type, int above) {
      if (world.aboveCount >= world.above.length) return;
      world.above[world.aboveCount] = above;
      world.aboveCount++;
      type.aboves++;
    }

    /** The type that a REF of extends or implements means; NONE if it may not stand there. */
    private int goodAbove(int ref) {
      int t = world.typeAt(world.refAt[ref]);
      if (t == NONE) return NONE;
      boolean wantsInterface = world.refRole[ref] != R_CLASS;
      return t == T_INTEGER || world.isInterface(t) != wantsInterface ? NONE : t;
    }

    /** Whether the token of a REF stands in its list already. */
    private boolean isAgain(int ref) {
      int list = world.refList[ref];
      for (int k = list; k < ref && list != NONE; k++) {
        if (rows.token[world.refAt[k]] == rows.token[world.refAt[ref]]) return true;
      }
      return false;
    }

    private void closeUp() {
      Arrays.fill(world.up, 0L);
      boolean more = true;
      for (int round = 0; round <= MOST_TYPES && more; round++) {
        more = false;
        for (int t = 0; t < world.typeCount; t++) more |= widen(t);
      }
    }

    /** Adds to what stands over a type what stands over the types right above it. */
    private boolean widen(int t) {
      Type type = world.types[t];
      boolean more = false;
      for (int k = 0; k < type.aboves; k++) {
        int above = world.above[type.firstAbove + k];
        for (int part = 0; part < 4; part++) {
          long bits = world.up[4 * above + part] | (above / 64 == part ? 1L << above % 64 : 0);
          if ((bits & ~world.up[4 * t + part]) == 0) continue;
          world.up[4 * t + part] |= bits;
          more = true;
        }
      }
      return more;
    }

    // ---- REFS, kinds, members

    private void checkRefs() {
      for (int ref = 0; ref < world.refCount; ref++) {
        int at = world.refAt[ref];
        int role = world.refRole[ref];
        int t = world.typeAt(at);
        if (isAgain(ref)) rows.mark(at, F_TWICE);
        if (t == NONE) rows.mark(at, F_UNKNOWN);
        else if (role == R_THROWS || role == R_CATCH) {
          if (!world.under(t, T_THROW)) rows.mark(at, F_FORM);
        } else if (role != R_PLAIN && goodAbove(ref) == NONE) rows.mark(at, F_FORM);
      }
    }

    private void giveKind(Decl d) {
      d.kind = d.kindAt == NONE ? K_VOID : world.kindAt(d.kindAt);
    }

    private void checkMemberNames(int t) {
      Type type = world.types[t];
      for (int m = type.firstMember; m < type.lastMember; m++) {
        Decl d = world.members[m];
        boolean twice = false;
        for (int k = type.firstMember; k < m; k++) {
          if (world.members[k].sort != d.sort) continue;
          boolean sameName = d.sort == D_START || rows.token[world.members[k].at] == rows.token[d.at];
          twice |= sameName && (d.sort == D_FIELD || world.sameParams(k, m));
        }
        if (!twice) continue;
        d.flags |= IS_TWICE;
        rows.mark(d.at, F_TWICE);
      }
    }

    // ---- methods of the types

    void gatherAllMethods() {
      world.methodCount = 0;
      for (int t = 0; t < world.typeCount; t++) world.types[t].methods = t < KNOWN_TYPES ? 0 : NONE;
      boolean more = true;
      for (int round = 0; round < MOST_TYPES && more; round++) {
        more = false;
        for (int t = KNOWN_TYPES; t < world.typeCount; t++) {
          if (world.types[t].methods != NONE || !isAboveGathered(t)) continue;
          gatherMethods(t);
          more = true;
        }
      }
      for (int t = KNOWN_TYPES; t < world.typeCount; t++) checkAbstract(t);
    }

    private boolean isAboveGathered(int t) {
      Type type = world.types[t];
      for (int k = 0; k < type.aboves; k++) {
        if (world.types[world.above[type.firstAbove + k]].methods == NONE) return false;
      }
      return true;
    }

    private void gatherMethods(int t) {
      Type type = world.types[t];
      type.firstMethod = world.methodCount;
      type.methods = 0;
      for (int m = type.firstMember; m < type.lastMember; m++) {
        if (world.isOwn(m, D_METHOD)) world.addMethod(t, m);
      }
      for (int k = 0; k < type.aboves; k++) {
        Type above = world.types[world.above[type.firstAbove + k]];
        for (int j = 0; j < above.methods; j++) inherit(t, world.methods[above.firstMethod + j]);
      }
    }

    private void inherit(int t, int m) {
      int ahead = world.methodLike(t, m);
      if (ahead == NONE) {
        world.addMethod(t, m);
      } else if (ahead != m && !mayOverride(world.members[ahead], world.members[m])) {
        boolean isOwn = world.members[ahead].owner == t;
        rows.mark(isOwn ? world.members[ahead].at : world.types[t].at, F_OVERRIDE);
      }
    }

    private boolean mayOverride(Decl one, Decl two) {
      if (one.is(IS_STATIC) != two.is(IS_STATIC)) return false;
      boolean known = one.kind != NO_KIND && two.kind != NO_KIND;
      if (known && one.kind != two.kind) {
        if (one.kind < K_REF || two.kind < K_REF || !world.under(one.kind - K_REF, two.kind - K_REF)) return false;
      }
      for (int k = 0; k < one.throwing; k++) {
        int thrown = world.typeAt(world.refAt[one.firstThrow + k]);
        if (thrown != NONE && world.isChecked(thrown) && !isThrownBy(two, thrown)) return false;
      }
      return true;
    }

    /** Whether a method throws a type of which that one is a subtype. */
    boolean isThrownBy(Decl method, int t) {
      for (int k = 0; k < method.throwing; k++) {
        int thrown = world.typeAt(world.refAt[method.firstThrow + k]);
        if (thrown != NONE && world.under(t, thrown)) return true;
      }
      return false;
    }

    private void checkAbstract(int t) {
      Type type = world.types[t];
      if (type.is(IS_INTERFACE) || type.is(IS_ABSTRACT)) return;
      if (world.abstractMethods(t) > 0) rows.mark(type.at, F_ABSTRACT);
    }

    // ---- searches for others

    /** The field of a type by the token of its name: a member, NONE, or SEVERAL. */
    int fieldOf(int t, int name) {
      search++;
      int found = NONE;
      int many = 1;
      queue[0] = t;
      seen[t] = search;
      for (int k = 0; k < many; k++) {
        Type type = world.types[queue[k]];
        int own = ownField(type, name);
        if (own != NONE) {
          if (found != NONE) return SEVERAL;
          found = own;
          continue;
        }
        for (int j = 0; j < type.aboves; j++) {
          int above = world.above[type.firstAbove + j];
          if (seen[above] == search || many >= MOST_TYPES) continue;
          seen[above] = search;
          queue[many] = above;
          many++;
        }
      }
      return found;
    }

    private int ownField(Type type, int name) {
      for (int m = type.firstMember; m < type.lastMember; m++) {
        if (world.isOwn(m, D_FIELD) && rows.token[world.members[m].at] == name) return m;
      }
      return NONE;
    }

    /** The constructor that super ( ) unsaid calls in a class; KNOWN_START, or NONE if none applies. */
    int unsaidStart(int t) {
      int above = world.superOf(t);
      if (above < KNOWN_TYPES) return KNOWN_START;
      for (int m = world.types[above].firstMember; m < world.types[above].lastMember; m++) {
        boolean isStart = world.isOwn(m, D_START) || world.isOwn(m, D_UNSAID);
        if (isStart && world.members[m].params == 0) return m;
      }
      return NONE;
    }
  }

  /** Gives each EXPR its TYPE, its value if it is constant, and what it means; tells the faults of sections 3 and 4. */
  private static final class Judge {
    final Rows rows;
    final Tree tree;
    final World world;
    final Linker linker;
    final int[] kind = new int[SPAN];
    final boolean[] fixed = new boolean[SPAN];
    final long[] value = new long[SPAN];
    final int[] sense = new int[SPAN];
    final int[] meant = new int[SPAN];
    final int[] phase = new int[SPAN];
    final int[] applies = new int[SPAN];
    // What has the name of a call, and what of that applies.
    final int[] named = new int[MOST_MEMBERS];
    int namedCount;
    final int[] found = new int[MOST_MEMBERS];
    int foundCount;
    int type;
    Decl around;
    boolean inStart;
    boolean quiet;

    Judge(Rows rows, Tree tree, World world, Linker linker) {
      this.rows = rows;
      this.tree = tree;
      this.world = world;
      this.linker = linker;
      this.around = world.members[0];
    }

    void clear() {
      for (int at = 0; at < SPAN; at++) forget(at);
    }

    private void forget(int at) {
      kind[at] = NO_KIND;
      fixed[at] = false;
      value[at] = 0;
      sense[at] = S_NOTHING;
      meant[at] = NONE;
      phase[at] = 0;
      applies[at] = 0;
    }

    /**
     * Goes once through the bodies: quietly, just through the fields that may turn out to be constant and are not
     * yet (it has to be repeated, as they hang on one another), or through all, telling the faults.
     * Returns whether a field was found to be constant.
     */
    boolean pass(boolean quietly) {
      quiet = quietly;
      boolean more = false;
      for (int m = 0; m < world.memberCount; m++) {
        around = world.members[m];
        if (quietly && (!mayBeFixed(around) || around.fixed)) continue;
        type = around.owner;
        inStart = false;
        if (!quietly) member();
        for (int i = around.script; i < around.scriptEnd; i++) {
          int at = tree.place[i];
          if (tree.what[i] == EV_NODE) {
            forget(at);
            if (tree.sort[at] >= E_CALL && tree.sort[at] <= E_START) call(at);
            else node(at);
          } else if (tree.what[i] == EV_BEFORE) {
            inStart |= tree.sort[at] == E_START;
          } else if (!quietly) {
            statement(tree.what[i], at);
          }
        }
        if (quietly) more |= fix(around, around.root);
      }
      return more;
    }

    private boolean mayBeFixed(Decl field) {
      return field.sort == D_FIELD && field.is(IS_STATIC) && field.is(IS_FINAL) && field.is(HAS_VALUE)
          && field.kind != NO_KIND && field.kind < K_REF;
    }

    /** Makes a final variable constant, if what stands behind its = is so, and fits. */
    private boolean fix(Decl variable, int root) {
      if (!fixed[root] || !fitsAsValue(root, variable.kind)) return false;
      variable.fixed = true;
      variable.value = wrap(variable.kind, value[root]);
      return true;
    }

    private void tell(int number, int at) {
      if (!quiet) rows.mark(at, number);
    }

    /** Whether nothing that is not static may be named. */
    private boolean isStaticPlace() {
      return around.is(IS_STATIC) || inStart;
    }

    // ---- members and statements

    private void member() {
      for (int v = around.firstVar; v < around.firstVar + around.params; v++) checkName(v);
      boolean isStart = around.sort == D_START;
      if (isStart && rows.token[around.at] != rows.token[world.types[type].at]) tell(F_FORM, around.at);
      boolean unsaid = around.sort == D_UNSAID || isStart && !around.is(HAS_START);
      if (unsaid && linker.unsaidStart(type) == NONE) tell(F_FORM, around.at);
      if (around.sort == D_FIELD && around.is(IS_FINAL) && !around.is(HAS_VALUE)) tell(F_STAND, around.at);
    }

    private void checkName(int v) {
      int at = world.vars[v].at;
      if (world.varNamed(rows.token[at], at, around.firstVar, v) != NONE) tell(F_TWICE, at);
    }

    private void statement(int event, int at) {
      int root = tree.root[at];
      switch (event) {
        case EV_BEGIN:
          if (tree.work[at] == W_LOCAL) checkName(tree.held[at]);
          break;
        case EV_CATCH:
          checkName(tree.more[at]);
          break;
        case EV_LOCAL:
          Decl variable = world.vars[tree.held[at]];
          if (root != NONE) checkValue(variable.kind, root, variable.at);
          else if (variable.is(IS_FINAL)) tell(F_STAND, variable.at);
          if (root != NONE && variable.is(IS_FINAL) && variable.kind < K_REF) fix(variable, root);
          break;
        case EV_FIELD_END:
          checkValue(around.kind, around.root, around.at);
          break;
        case EV_PLAIN:
          if (!mayStandAlone(tree.sort[root])) tell(F_STAND, root);
          break;
        case EV_IF:
        case EV_LOOP:
        case EV_DO_END:
          int test = kind[root];
          if (test != NO_KIND && test != K_BOOLEAN) tell(F_FORM, at);
          break;
        case EV_BREAK:
        case EV_CONTINUE:
          if (tree.held[at] == NONE) tell(F_STAND, at);
          break;
        case EV_RETURN:
          boolean isVoid = around.kind == K_VOID;
          if (isVoid != (root == NONE)) tell(F_FORM, at);
          else if (!isVoid) checkValue(around.kind, root, at);
          break;
        case EV_THROW:
          int thrown = kind[root];
          boolean isRef = thrown >= K_REF && world.under(thrown - K_REF, T_THROW);
          if (thrown != NO_KIND && thrown != K_NULL && !isRef) tell(F_FORM, at);
          break;
        case EV_TELL:
          if (kind[root] == K_VOID) tell(F_FORM, at);
          break;
        default:
      }
    }

    private static boolean mayStandAlone(int sort) {
      return sort == E_SET || sort == E_ADD_SET || sort >= E_CALL && sort <= E_NEW;
    }

    /** What stands behind = or return has to fit. */
    private void checkValue(int to, int root, int at) {
      if (to != NO_KIND && kind[root] != NO_KIND && !fitsAsValue(root, to)) tell(F_FORM, at);
    }

    // ---- names, fields

    private void node(int at) {
      switch (tree.sort[at]) {
        case E_NUMBER:
          become(at, K_INT, true, rows.token[at] - FIRST_NUMBER);
          break;
        case E_TRUTH:
          become(at, K_BOOLEAN, true, rows.token[at] == TRUE ? 1 : 0);
          break;
        case E_NULL:
          kind[at] = K_NULL;
          break;
        case E_THIS:
          if (isStaticPlace()) tell(F_STATIC, at);
          else kind[at] = K_REF + type;
          break;
        case E_NAME:
          name(at);
          break;
        case E_FIELD:
          fieldBehind(at, tree.left[at]);
          break;
        case E_SUPER_FIELD:
          if (isStaticPlace()) tell(F_STATIC, at - 2);
          else byField(at, linker.fieldOf(world.superOf(type), rows.token[at]), false, false);
          break;
        case E_MINUS:
        case E_NOT:
        case E_CAST:
        case E_INSTANCE:
          if (kind[tree.left[at]] != NO_KIND) unary(at, tree.left[at]);
          break;
        case E_CHOICE:
          choice(at, tree.left[at], tree.right[at], tree.third[at]);
          break;
        case E_SET:
        case E_ADD_SET:
          set(at, tree.left[at], tree.right[at]);
          break;
        default:
          if (kind[tree.left[at]] != NO_KIND && kind[tree.right[at]] != NO_KIND) binary(at, tree.left[at], tree.right[at]);
      }
    }

    private void become(int at, int kind, boolean fixed, long value) {
      this.kind[at] = kind;
      this.fixed[at] = fixed;
      this.value[at] = fixed ? wrap(kind, value) : 0;
    }

    private void name(int at) {
      int token = rows.token[at];
      int v = world.varNamed(token, at, around.firstVar, around.lastVar);
      if (v != NONE) {
        Decl variable = world.vars[v];
        sense[at] = S_VAR;
        meant[at] = v;
        become(at, variable.kind, variable.fixed, variable.value);
        return;
      }
      int f = linker.fieldOf(type, token);
      if (f == NONE && (tree.flags[at] & N_AHEAD) != 0 && world.typeAt(at) != NONE) {
        sense[at] = S_TYPE;
        meant[at] = world.typeAt(at);
      } else {
        byField(at, f, isStaticPlace(), true);
      }
    }

    private void fieldBehind(int at, int left) {
      if (sense[left] == S_TYPE) byField(at, linker.fieldOf(meant[left], rows.token[at]), true, true);
      else if (kind[left] == NO_KIND) return;
      else if (kind[left] < K_REF) tell(F_FORM, at);
      else byField(at, linker.fieldOf(kind[left] - K_REF, rows.token[at]), false, false);
    }

    /** A name that means a field, if there is just one (f is what was found). */
    private void byField(int at, int f, boolean wantsStatic, boolean mayBeFixed) {
      if (f == SEVERAL) {
        tell(F_AMBIGUOUS, at);
        return;
      }
      if (f == NONE) {
        tell(F_UNKNOWN, at);
        return;
      }
      Decl field = world.members[f];
      sense[at] = S_FIELD;
      meant[at] = f;
      if (wantsStatic && !field.is(IS_STATIC)) tell(F_STATIC, at);
      else become(at, field.kind, mayBeFixed && field.fixed, field.value);
    }

    // ---- calls

    private void call(int at) {
      int sort = tree.sort[at];
      if (sort == E_START) inStart = false;
      if (sort == E_SUPER_CALL && isStaticPlace()) {
        tell(F_STATIC, at - 2);
        return;
      }
      int owner = ownerOf(at, sort);
      if (owner == NONE) return;
      if (sort == E_NEW && (world.types[owner].flags & (IS_ABSTRACT | IS_INTERFACE)) != 0) {
        tell(F_ABSTRACT, at);
        return;
      }
      if (hasArgumentWithoutKind(at)) return;
      if (owner == SEVERAL) {
        tell(F_FORM, at);
        return;
      }
      boolean makes = sort == E_NEW || sort == E_START;
      gatherNamed(owner, rows.token[at], makes);
      if (makes && owner < KNOWN_TYPES) startKnown(at, owner);
      else if (namedCount == 0) tell(F_UNKNOWN, at);
      else choose(at, sort, owner);
    }

    /** The type of whose methods or constructors one is called; NONE without, SEVERAL if a kind has none. */
    private int ownerOf(int at, int sort) {
      int left = tree.left[at];
      switch (sort) {
        case E_NEW: return world.typeAt(at + 1);
        case E_START: return rows.token[at] == THIS ? type : world.superOf(type);
        case E_SUPER_CALL: return world.superOf(type);
        case E_DOT_CALL:
          if (sense[left] == S_TYPE) return meant[left];
          return kind[left] == NO_KIND ? NONE : kind[left] < K_REF ? SEVERAL : kind[left] - K_REF;
        default: return type;
      }
    }

    private boolean hasArgumentWithoutKind(int at) {
      for (int arg = tree.third[at], k = 0; arg != NONE && k < ROW; arg = tree.next[arg], k++) {
        if (kind[arg] == NO_KIND) return true;
      }
      return false;
    }

    private void gatherNamed(int owner, int name, boolean makes) {
      Type type = world.types[owner];
      namedCount = 0;
      for (int k = 0; !makes && k < type.methods; k++) {
        int m = world.methods[type.firstMethod + k];
        if (rows.token[world.members[m].at] == name && namedCount < MOST_MEMBERS) named[namedCount++] = m;
      }
      for (int m = type.firstMember; makes && m < type.lastMember; m++) {
        if ((world.isOwn(m, D_START) || world.isOwn(m, D_UNSAID)) && namedCount < MOST_MEMBERS) named[namedCount++] = m;
      }
    }

    private void startKnown(int at, int owner) {
      if (owner == T_INTEGER || tree.many[at] > 0) {
        tell(F_FORM, at);
        return;
      }
      phase[at] = 1;
      applies[at] = 1;
      sense[at] = S_CALL;
      meant[at] = KNOWN_START;
      if (tree.sort[at] == E_NEW) kind[at] = K_REF + owner;
    }

    private void choose(int at, int sort, int owner) {
      findApplying(at);
      if (foundCount == 0) {
        tell(F_FORM, at);
        return;
      }
      int m = mostSpecific();
      if (m == NONE) {
        tell(F_AMBIGUOUS, at);
        return;
      }
      Decl d = world.members[m];
      sense[at] = S_CALL;
      meant[at] = m;
      boolean byType = sort == E_DOT_CALL && sense[tree.left[at]] == S_TYPE;
      boolean wantsStatic = byType || sort == E_CALL && isStaticPlace();
      if (wantsStatic && !d.is(IS_STATIC)) tell(F_STATIC, at);
      else if (sort == E_SUPER_CALL && d.is(IS_ABSTRACT)) tell(F_ABSTRACT, at);
      else if (sort == E_NEW) kind[at] = K_REF + owner;
      else if (sort != E_START) kind[at] = d.kind;
    }

    /** Of what has the name, finds what applies: strictly, or if nothing does so, loosely. */
    private void findApplying(int at) {
      foundCount = 0;
      for (int round = 1; round <= 2 && foundCount == 0; round++) {
        for (int k = 0; k < namedCount; k++) {
          Decl d = world.members[named[k]];
          boolean good = d.params == tree.many[at];
          for (int arg = tree.third[at], p = 0; good && arg != NONE && p < d.params; arg = tree.next[arg], p++) {
            good = fits(kind[arg], world.vars[d.firstVar + p].kind, round == 2);
          }
          if (good) found[foundCount++] = named[k];
        }
        if (foundCount > 0) phase[at] = round;
      }
      applies[at] = foundCount;
    }

    private int mostSpecific() {
      for (int k = 0; k < foundCount; k++) {
        Decl one = world.members[found[k]];
        boolean best = true;
        for (int j = 0; j < foundCount && best; j++) {
          Decl two = world.members[found[j]];
          for (int p = 0; p < one.params && p < two.params && best; p++) {
            best = fits(world.vars[one.firstVar + p].kind, world.vars[two.firstVar + p].kind, false);
          }
        }
        if (best) return found[k];
      }
      return NONE;
    }

    // ---- kinds

    /** Whether a kind fits another one, strictly or loosely. */
    private boolean fits(int from, int to, boolean loosely) {
      if (from == NO_KIND || to == NO_KIND || from == K_VOID) return false;
      if (from == to) return true;
      if (from == K_BYTE || from == K_INT) {
        if (from < to && to <= K_LONG) return true;
        return loosely && from == K_INT && (to == K_INTEGER || to == K_OBJECT);
      }
      if (to >= K_REF) return from == K_NULL || from >= K_REF && world.under(from - K_REF, to - K_REF);
      return loosely && from == K_INTEGER && (to == K_INT || to == K_LONG);
    }

    private boolean fitsAsValue(int at, int to) {
      return fits(kind[at], to, true) || to == K_BYTE && isSmall(at);
    }

    /** Whether it is a constant int that a byte can hold. */
    private boolean isSmall(int at) {
      return fixed[at] && kind[at] == K_INT && value[at] >= -128 && value[at] <= 127;
    }

    private static boolean isPlainInt(int kind) {
      return kind >= K_BYTE && kind <= K_LONG;
    }

    private static boolean isInt(int kind) {
      return kind >= K_BYTE && kind <= K_LONG || kind == K_INTEGER;
    }

    private static int common(int one, int two) {
      return one == K_LONG || two == K_LONG ? K_LONG : K_INT;
    }

    private boolean mayCast(int from, int to) {
      if (from >= K_REF && to >= K_REF) {
        if (world.under(from - K_REF, to - K_REF) || world.under(to - K_REF, from - K_REF)) return true;
        return to != K_INTEGER && world.isInterface(from - K_REF) || from != K_INTEGER && world.isInterface(to - K_REF);
      }
      if (from == K_NULL) return to >= K_REF;
      if (from == K_INTEGER) return to == K_INT || to == K_LONG;
      if (from == K_BOOLEAN) return to == K_BOOLEAN;
      return isPlainInt(from) && isPlainInt(to) || from == K_INT && (to == K_INTEGER || to == K_OBJECT);
    }

    // ---- signs

    private void unary(int at, int part) {
      int from = kind[part];
      int sort = tree.sort[at];
      if (sort == E_MINUS) {
        if (isInt(from)) become(at, common(from, K_INT), fixed[part], -value[part]);
        else tell(F_FORM, at);
      } else if (sort == E_NOT) {
        if (from == K_BOOLEAN) become(at, K_BOOLEAN, fixed[part], 1 - value[part]);
        else tell(F_FORM, at);
      } else {
        int to = world.kindAt(at + 1);
        if (to == NO_KIND) return;
        boolean good = mayCast(from, to) && (sort == E_CAST || from >= K_REF || from == K_NULL);
        if (!good) tell(F_FORM, at);
        else if (sort == E_CAST) become(at, to, fixed[part] && to < K_REF, value[part]);
        else kind[at] = K_BOOLEAN;
      }
    }

    private void binary(int at, int left, int right) {
      int one = kind[left];
      int two = kind[right];
      boolean ints = isInt(one) && isInt(two);
      boolean good = false;
      int result = K_BOOLEAN;
      switch (tree.sort[at]) {
        case E_ARITHMETIC:
          good = ints;
          result = common(one, two);
          break;
        case E_COMPARE:
          good = ints;
          break;
        case E_LOGIC:
          good = one == K_BOOLEAN && two == K_BOOLEAN;
          break;
        default:
          good = maySame(one, two);
      }
      if (!good) {
        tell(F_FORM, at);
        return;
      }
      int token = rows.token[at];
      boolean divides = token == DIVIDE || token == REST;
      boolean isFixed = fixed[left] && fixed[right] && !(divides && value[right] == 0);
      become(at, result, isFixed, isFixed ? compute(token, value[left], value[right]) : 0);
    }

    private boolean maySame(int one, int two) {
      if (one == K_BOOLEAN || two == K_BOOLEAN) return one == two;
      if (isInt(one) && isInt(two) && (one != K_INTEGER || two != K_INTEGER)) return true;
      if (one < K_REF && two < K_REF || one < K_NULL || two < K_NULL || one == K_VOID || two == K_VOID) return false;
      return mayCast(one, two) || mayCast(two, one);
    }

    private void choice(int at, int test, int one, int two) {
      if (kind[test] == NO_KIND || kind[one] == NO_KIND || kind[two] == NO_KIND) return;
      int result = kind[test] == K_BOOLEAN ? chosenKind(one, two) : NO_KIND;
      if (result == NO_KIND) tell(F_FORM, at);
      else become(at, result, fixed[test] && fixed[one] && fixed[two], value[test] != 0 ? value[one] : value[two]);
    }

    private int chosenKind(int left, int right) {
      int one = kind[left];
      int two = kind[right];
      if (one == K_BOOLEAN || two == K_BOOLEAN) return one == two ? K_BOOLEAN : NO_KIND;
      if (isInt(one) && isInt(two) && (one != K_INTEGER || two != K_INTEGER)) {
        if (one == two) return one;
        boolean small = one == K_BYTE && isSmall(right) || two == K_BYTE && isSmall(left);
        return small ? K_BYTE : common(one, two);
      }
      if (one == K_INT) one = K_INTEGER;
      if (two == K_INT) two = K_INTEGER;
      boolean refs = (one >= K_REF || one == K_NULL) && (two >= K_REF || two == K_NULL);
      if (refs && (one == K_NULL || fits(one, two, false))) return two;
      return refs && fits(two, one, false) ? one : NO_KIND;
    }

    private void set(int at, int left, int right) {
      if (kind[left] == NO_KIND || kind[right] == NO_KIND) return;
      if (sense[left] != S_VAR && sense[left] != S_FIELD) {
        tell(F_STAND, at);
        return;
      }
      Decl variable = sense[left] == S_VAR ? world.vars[meant[left]] : world.members[meant[left]];
      boolean isSet = tree.sort[at] == E_SET;
      boolean good = isSet ? fitsAsValue(right, kind[left]) : isPlainInt(kind[left]) && isInt(kind[right]);
      if (!good) tell(F_FORM, at);
      if (variable.is(IS_FINAL)) tell(F_FINAL, at);
      else if (good) kind[at] = kind[left];
    }

    // ---- values

    /** What an INT of a kind holds of a number. */
    static long wrap(int kind, long value) {
      return kind == K_BYTE ? (byte) value : kind == K_INT ? (int) value : value;
    }

    /** The value of a sign between two, that divides nothing by 0; 1 or 0 for true or false. */
    static long compute(int token, long one, long two) {
      switch (token) {
        case PLUS: return one + two;
        case MINUS: return one - two;
        case TIMES: return one * two;
        case DIVIDE: return two == 0 ? 0 : two == -1 ? -one : one / two;
        case REST: return two == 0 || two == -1 ? 0 : one % two;
        case LESS: return one < two ? 1 : 0;
        case LESS_SAME: return one <= two ? 1 : 0;
        case SAME: return one == two ? 1 : 0;
        case OTHER: return one != two ? 1 : 0;
        case AND: return one & two;
        default: return one | two;
      }
    }
  }

  /** What is reached, where variables are set, and what is raised; tells the faults of section 5. */
  private static final class Flow {
    private static final int REACHED = 1, COMPLETES = 2, LOOKED_AT = 4, FINALLY_COMPLETES = 8, IS_HIT = 16;
    // How a STATEMENT may end; IS_BLOCK marks on the stack the end of a BLOCK that is still being gone through.
    private static final int DONE = 1, BROKEN = 2, CONTINUED = 4, IS_BLOCK = 8, IS_TOLD = 16;
    private static final long ALL = -1L;
    // Stands for each variable that has not come yet: it is set just where all are.
    private static final int LATER = NAMES;

    final Rows rows;
    final Tree tree;
    final World world;
    final Linker linker;
    final Judge judge;
    final int[] state = new int[SPAN];
    final long[] setAt = new long[SPAN];
    // Of a loop what is set ahead of each break, and of each continue.
    final long[] atBreak = new long[SPAN];
    final long[] atContinue = new long[SPAN];
    final long[] stack = new long[DEEPEST];
    int size;
    int end;
    boolean reach;
    boolean pending;
    long whenTrue;
    long whenFalse;
    boolean writes;
    final long[] written = new long[MOST_TYPES / 64];

    Flow(Rows rows, Tree tree, World world, Linker linker, Judge judge) {
      this.rows = rows;
      this.tree = tree;
      this.world = world;
      this.linker = linker;
      this.judge = judge;
    }

    void check() {
      Arrays.fill(state, 0);
      writes = false;
      for (int m = 0; m < world.memberCount; m++) {
        Decl d = world.members[m];
        boolean isClean = d.from != NONE && isClean(d.from, d.to);
        if (isClean) d.flags |= IS_CLEAN;
        if (isClean && d.sort != D_FIELD) {
          findEnds(d);
          findReached(d);
          findSet(d);
        }
        if (isClean || d.sort == D_UNSAID) findRaised(d);
      }
    }

    private boolean isClean(int from, int to) {
      for (int at = from; at <= to; at++) {
        if ((rows.marks[at] & ~FLOW_FAULTS) != 0) return false;
      }
      return true;
    }

    int reachOf(int at) {
      return (state[at] & LOOKED_AT) == 0 ? NONE : state[at] & (REACHED | COMPLETES);
    }

    int setOf(int at, int name) {
      int m = (state[at] & LOOKED_AT) == 0 ? NONE : world.memberAround(at);
      if (m == NONE) return NONE;
      int v = world.varNamed(FIRST_NAME + name, at, world.members[m].firstVar, world.members[m].lastVar);
      return v == NONE ? NONE : (int) (setAt[at] >> name & 1);
    }

    private void push(long value) {
      if (size >= DEEPEST) return;
      stack[size] = value;
      size++;
    }

    private long pop() {
      if (size == 0) return 0;
      size--;
      return stack[size];
    }

    private long peek() {
      return size == 0 ? 0 : stack[size - 1];
    }

    private void become(long value) {
      if (size > 0) stack[size - 1] = value;
    }

    private boolean isConstant(int root, boolean value) {
      return judge.fixed[root] && judge.kind[root] == K_BOOLEAN && judge.value[root] != 0 == value;
    }

    // ---- what can complete

    private void findEnds(Decl d) {
      size = 0;
      end = DONE;
      for (int i = d.script; i < d.scriptEnd; i++) {
        int at = tree.place[i];
        switch (tree.what[i]) {
          case EV_BEGIN:
            end = endOfPlain(tree.work[at]);
            break;
          case EV_END:
            if ((end & DONE) != 0) state[at] |= COMPLETES;
            if ((peek() & IS_BLOCK) != 0) become(behindItem((int) peek()));
            break;
          case EV_BLOCK:
            push(IS_BLOCK | DONE);
            break;
          case EV_BLOCK_END:
            end = (int) pop() & ~IS_BLOCK;
            break;
          case EV_IF:
          case EV_LOOP:
          case EV_DO:
          case EV_TRY:
            push(0);
            break;
          case EV_ELSE:
          case EV_TRIED:
          case EV_CAUGHT:
            become(peek() | end);
            break;
          case EV_IF_END:
            end |= (int) pop() | (tree.jump[at] == tree.other[at] ? DONE : 0);
            break;
          case EV_WHILE_END:
            pop();
            end = endOfWhile(tree.root[at]);
            break;
          case EV_DO_END:
            pop();
            boolean again = (end & (DONE | CONTINUED)) != 0 && !isConstant(tree.root[at], true);
            end = again || (end & BROKEN) != 0 ? DONE : 0;
            break;
          case EV_TRY_END:
            endOfTry(at, (int) pop());
            break;
          default:
        }
      }
      if ((end & DONE) != 0 && d.sort == D_METHOD && d.kind != K_VOID) rows.mark(d.to, F_RETURN);
    }

    private static int endOfPlain(int work) {
      switch (work) {
        case W_BREAK: return BROKEN;
        case W_CONTINUE: return CONTINUED;
        case W_RETURN:
        case W_THROW: return 0;
        default: return DONE;
      }
    }

    /** The end of a BLOCK as far as behind an item, by the end as far as ahead of it. */
    private int behindItem(int ahead) {
      if ((ahead & DONE) == 0) return ahead;
      return ahead & ~DONE | end;
    }

    private int endOfWhile(int test) {
      boolean broken = (end & BROKEN) != 0 && !isConstant(test, false);
      return broken || !isConstant(test, true) ? DONE : 0;
    }

    private void endOfTry(int at, int parts) {
      if (tree.other[at] == NONE) {
        end = parts;
      } else if ((end & DONE) != 0) {
        state[at] |= FINALLY_COMPLETES;
        end = end & ~DONE | parts;
      }
    }

    // ---- what is reached

    private void findReached(Decl d) {
      size = 0;
      reach = true;
      pending = false;
      for (int i = d.script; i < d.scriptEnd; i++) {
        int at = tree.place[i];
        switch (tree.what[i]) {
          case EV_BEGIN:
            beginItem(at);
            break;
          case EV_END:
            reach = (state[at] & (REACHED | COMPLETES)) == (REACHED | COMPLETES);
            break;
          case EV_BLOCK:
            push(IS_BLOCK | (reach ? REACHED : 0));
            break;
          case EV_BLOCK_END:
            pop();
            pending = false;
            break;
          case EV_IF:
          case EV_DO:
          case EV_TRY:
            push(0);
            break;
          case EV_LOOP:
            push(0);
            if (reach && isConstant(tree.root[at], false)) {
              reach = false;
              pending = true;
            }
            break;
          case EV_ELSE:
          case EV_FINALLY:
            reach = (state[at] & REACHED) != 0;
            break;
          case EV_CATCH:
            reach = (state[tree.root[at]] & REACHED) != 0;
            break;
          case EV_IF_END:
          case EV_WHILE_END:
          case EV_DO_END:
          case EV_TRY_END:
            pop();
            break;
          default:
        }
      }
    }

    private void beginItem(int at) {
      int around = (int) peek();
      boolean isFirst = (around & IS_BLOCK) != 0 && (around & REACHED) != 0 && (around & IS_TOLD) == 0 && !reach;
      if (isFirst) {
        become(around | IS_TOLD);
        pending = true;
      }
      // Of a BLOCK its first ITEM is told in its place.
      if (pending && tree.work[at] != W_BLOCK) {
        rows.mark(at, F_UNREACHED);
        pending = false;
      }
      state[at] |= reach ? LOOKED_AT | REACHED : LOOKED_AT;
    }

    // ---- where variables are set

    private void findSet(Decl d) {
      size = 0;
      whenTrue = 0;
      for (int v = d.firstVar; v < d.firstVar + d.params; v++) whenTrue |= bitOf(world.vars[v]);
      whenFalse = whenTrue;
      for (int i = d.script; i < d.scriptEnd; i++) {
        int at = tree.place[i];
        int event = tree.what[i];
        if (event == EV_NODE) node(at);
        else if (event == EV_MIDDLE) middle(at);
        else if (event == EV_OTHERWISE) otherwise();
        else if (event <= EV_DO_END) goThrough(event, at);
        else jumpOrTry(event, at);
      }
    }

    private long bitOf(Decl variable) {
      return 1L << rows.token[variable.at] - FIRST_NAME;
    }

    private long both() {
      return whenTrue & whenFalse;
    }

    private void set(long value) {
      whenTrue = value;
      whenFalse = value;
    }

    private void goThrough(int event, int at) {
      switch (event) {
        case EV_BEGIN:
          set(both());
          setAt[at] = whenTrue;
          // Another variable of that name may have been there before.
          if (tree.work[at] == W_LOCAL) forget(bitOf(world.vars[tree.held[at]]));
          break;
        case EV_LOCAL:
          set(both() | (tree.root[at] == NONE ? 0 : bitOf(world.vars[tree.held[at]])));
          break;
        case EV_IF:
        case EV_LOOP:
          push(whenFalse);
          set(whenTrue);
          break;
        case EV_ELSE:
          long otherwise = pop();
          push(both());
          set(otherwise);
          break;
        case EV_IF_END:
          set(both() & pop());
          break;
        case EV_WHILE:
        case EV_DO:
          atBreak[at] = ALL;
          atContinue[at] = ALL;
          break;
        case EV_WHILE_END:
          set(pop() & atBreak[at]);
          break;
        case EV_DO_TEST:
          set(both() & atContinue[at]);
          break;
        case EV_DO_END:
          set(whenFalse & atBreak[at]);
          break;
        default:
      }
    }

    private void jumpOrTry(int event, int at) {
      switch (event) {
        case EV_BREAK:
          atBreak[tree.held[at]] &= both();
          set(ALL);
          break;
        case EV_CONTINUE:
          atContinue[tree.held[at]] &= both();
          set(ALL);
          break;
        case EV_RETURN:
        case EV_THROW:
          set(ALL);
          break;
        case EV_TRY:
          push(both());
          push(ALL);
          break;
        case EV_TRIED:
        case EV_CAUGHT:
          become(peek() & both());
          break;
        case EV_CATCH:
          set(aheadOfTry() | bitOf(world.vars[tree.more[at]]));
          break;
        case EV_FINALLY:
          set(aheadOfTry());
          break;
        case EV_TRY_END:
          long parts = pop();
          pop();
          set(tree.other[at] == NONE ? parts : parts | both());
          break;
        default:
      }
    }

    private long aheadOfTry() {
      return size < 2 ? 0 : stack[size - 2];
    }

    private void forget(long bit) {
      set((whenTrue >> LATER & 1) != 0 ? whenTrue | bit : whenTrue & ~bit);
    }

    private void node(int at) {
      int sort = tree.sort[at];
      if (sort == E_NOT) {
        long swapped = whenTrue;
        whenTrue = whenFalse;
        whenFalse = swapped;
      } else if (sort == E_LOGIC) {
        if (rows.token[at] == AND) whenFalse &= pop();
        else whenTrue &= pop();
      } else if (sort == E_CHOICE) {
        whenFalse &= pop();
        whenTrue &= pop();
        if (judge.kind[at] != K_BOOLEAN) set(both());
      } else {
        set(both());
        if (sort == E_NAME && judge.sense[at] == S_VAR) ask(at, bitOf(world.vars[judge.meant[at]]));
        int left = sort == E_SET || sort == E_ADD_SET ? tree.left[at] : NONE;
        if (left != NONE && judge.sense[left] == S_VAR) set(whenTrue | bitOf(world.vars[judge.meant[left]]));
      }
      long here = both();
      if (isConstant(at, true)) {
        whenTrue = here;
        whenFalse = ALL;
      } else if (isConstant(at, false)) {
        whenTrue = ALL;
        whenFalse = here;
      }
    }

    private void ask(int at, long bit) {
      if (tree.isAsked(at) && (whenTrue & bit) == 0) rows.mark(at, F_UNSET);
    }

    private void middle(int at) {
      boolean isOr = rows.token[at] == OR;
      push(isOr ? whenTrue : whenFalse);
      set(isOr ? whenFalse : whenTrue);
    }

    private void otherwise() {
      long ahead = pop();
      push(whenTrue);
      push(whenFalse);
      set(ahead);
    }

    // ---- what is raised

    void writeRaised(int at) {
      int m = world.memberAt(at);
      boolean isThere = m != NONE && world.members[m].sort != D_FIELD && world.members[m].is(IS_CLEAN);
      if (!isThere) {
        world.text.append('-');
        return;
      }
      writes = true;
      Arrays.fill(written, 0L);
      findRaised(world.members[m]);
      writes = false;
    }

    private void findRaised(Decl d) {
      boolean unsaid = d.sort == D_UNSAID || d.sort == D_START && !d.is(HAS_START);
      if (unsaid) raiseAll(d, linker.unsaidStart(d.owner), d.at, NONE);
      if (d.from == NONE) return;
      for (int at = d.from; at <= d.to; at++) {
        boolean calls = tree.sort[at] >= E_CALL && tree.sort[at] <= E_START && judge.sense[at] == S_CALL;
        if (calls) raiseAll(d, judge.meant[at], at, tree.zone[at]);
        int thrown = tree.work[at] == W_THROW ? judge.kind[tree.root[at]] : NO_KIND;
        if (thrown >= K_REF && getsOut(thrown - K_REF, tree.zone[at])) note(d, thrown - K_REF, at);
        if (tree.work[at] == W_CATCH && !writes) checkCatch(at);
      }
    }

    private void raiseAll(Decl d, int m, int at, int zone) {
      if (m < 0) return;
      Decl method = world.members[m];
      for (int k = 0; k < method.throwing; k++) {
        int t = world.typeAt(world.refAt[method.firstThrow + k]);
        if (t != NONE && getsOut(t, zone)) note(d, t, at);
      }
    }

    /** Goes from try to try outwards, till what is raised is caught, or gets out. */
    private boolean getsOut(int t, int innermost) {
      int zone = innermost;
      for (int k = 0; k < MOST_TOKENS && zone != NONE; k++) {
        int around = zone / 4;
        if (zone % 4 == IN_TRIED && isCaught(around, t)) return false;
        boolean isLost = tree.other[around] != NONE && (state[around] & FINALLY_COMPLETES) == 0;
        if (zone % 4 != IN_FINALLY && isLost) return false;
        zone = tree.zone[around];
      }
      return true;
    }

    private void note(Decl d, int t, int at) {
      if (!world.isChecked(t)) return;
      if (!writes) {
        if (!linker.isThrownBy(d, t)) rows.mark(at, F_UNCAUGHT);
      } else if ((written[t / 64] >> t % 64 & 1) == 0) {
        written[t / 64] |= 1L << t % 64;
        world.gap();
        world.writeFull(t);
      }
    }

    private boolean isCaught(int around, int t) {
      boolean caught = false;
      for (int c = tree.held[around], k = 0; c != NONE && k < MOST_TOKENS; c = tree.held[c], k++) {
        int ref = world.typeAt(c + 2);
        if (ref == NONE) continue;
        if (world.under(t, ref)) caught = true;
        if (world.under(t, ref) || world.under(ref, t)) state[c] |= IS_HIT;
      }
      return caught;
    }

    private void checkCatch(int at) {
      int t = world.typeAt(at + 2);
      if (t == NONE) return;
      boolean never = world.isChecked(t) && t != T_THROW && (state[at] & IS_HIT) == 0;
      for (int c = tree.held[tree.root[at]], k = 0; c != NONE && c != at && k < MOST_TOKENS; c = tree.held[c], k++) {
        int ahead = world.typeAt(c + 2);
        never |= ahead != NONE && world.under(t, ahead);
      }
      if (never) rows.mark(at + 2, F_NEVER);
    }
  }

  /** What a run told. */
  private static final class Outcome {
    final int[] count = new int[OUTCOMES];
    final int[] ends = new int[MOST_TOLD];
    final StringBuilder told = new StringBuilder();
    final StringBuilder result = new StringBuilder();

    Outcome() {
      count[O_END] = NONE;
      result.append('-');
    }

    void clear() {
      Arrays.fill(count, 0);
      told.setLength(0);
      result.setLength(0);
    }

    void tell(StringBuilder text) {
      if (count[O_TOLD] >= MOST_TOLD) return;
      if (count[O_TOLD] > 0) told.append(' ');
      copy(text, 0, text.length(), told);
      ends[count[O_TOLD]] = told.length();
      count[O_TOLD]++;
    }

    void writeTold(int k, StringBuilder to) {
      copy(told, k == 0 ? 0 : ends[k - 1] + 1, ends[k], to);
    }

    private static void copy(StringBuilder text, int from, int to, StringBuilder target) {
      for (int k = from; k < to; k++) target.append(text.charAt(k));
    }

    boolean isLike(Outcome other) {
      return count[O_TOLD] == other.count[O_TOLD] && count[O_STEPS] == other.count[O_STEPS]
          && isSame(told, other.told) && isSame(result, other.result);
    }

    private static boolean isSame(StringBuilder one, StringBuilder two) {
      if (one.length() != two.length()) return false;
      for (int k = 0; k < one.length(); k++) {
        if (one.charAt(k) != two.charAt(k)) return false;
      }
      return true;
    }
  }

  /** A CALL that is under way; the first one stands for what is done around all CALLS. */
  private static final class Frame {
    // More than the variables, and the tries in one another, that the text of a method has room for.
    static final int MOST_LOCALS = 80, MOST_TRIES = 16;

    final long[] locals = new long[MOST_LOCALS];
    final boolean[] has = new boolean[MOST_LOCALS];
    final int[] tryAt = new int[MOST_TRIES];
    final int[] tryPart = new int[MOST_TRIES];
    // What a finally has to go on with: see Machine.
    final int[] tryWhy = new int[MOST_TRIES];
    final long[] tryCarried = new long[MOST_TRIES];
    final int[] tryLoop = new int[MOST_TRIES];
    int tries;
    Decl member;
    long self;
    int back;
    int floor;
    int field;
    int resume;
    int wants;

    void begin(Decl member, long self, int back, int floor, int wants) {
      this.member = member;
      this.self = self;
      this.back = back;
      this.floor = floor;
      this.wants = wants;
      tries = 0;
      field = NONE;
      resume = 0;
      for (int k = 0; k < MOST_LOCALS; k++) has[k] = false;
    }

    /** The place of a variable among those of its method. */
    int placeOf(int v) {
      return Math.min(Math.max(0, v - member.firstVar), MOST_LOCALS - 1);
    }

    void put(int v, long value) {
      locals[placeOf(v)] = value;
      has[placeOf(v)] = true;
    }

    void enterTry(int at) {
      if (tries >= MOST_TRIES) return;
      tryAt[tries] = at;
      tryPart[tries] = IN_TRIED;
      tries++;
    }

    void enterFinally(int why, long carried, int loop) {
      tryPart[tries - 1] = IN_FINALLY;
      tryWhy[tries - 1] = why;
      tryCarried[tries - 1] = carried;
      tryLoop[tries - 1] = loop;
    }
  }

  /**
   * Runs the script. A value is a long: an INT itself, 1 or 0 for true or false; of a REF 0 for null, or an object or
   * a boxed int (see newRef and boxed). What throws, returns or jumps is noted, and the loop then leaves the tries.
   */
  private static final class Machine {
    private static final int NOTHING = 0, A_VALUE = 1, AN_OBJECT = 2;
    private static final int THROWS_IT = 1, RETURNS = 2, JUMPS = 3;
    private static final int STACK = 4096, MOST_HEAP = 1 << 20, MOST_TURNS = 20000000;
    private static final int BOX = 2, OBJECT = 1;

    final World world;
    final Tree tree;
    final Linker linker;
    final Judge judge;
    final Flow flow;
    final Frame[] frames = new Frame[MOST_CALLS + 1];
    int depth;
    final long[] stack = new long[STACK];
    int top;
    final long[] statics = new long[MOST_MEMBERS];
    long[] heap = new long[1024];
    int used;
    // A bit for each object: whether it was thrown already.
    final long[] thrown = new long[2048];
    int pc;
    int main;
    int state;
    int why;
    long carried;
    int loop;
    Outcome out;
    boolean watching;
    boolean sound;

    Machine(World world, Tree tree, Linker linker, Judge judge, Flow flow) {
      this.world = world;
      this.tree = tree;
      this.linker = linker;
      this.judge = judge;
      this.flow = flow;
      for (int k = 0; k < frames.length; k++) frames[k] = new Frame();
      out = new Outcome();
    }

    void perform(int m, int x, int y, Outcome out, boolean watching) {
      this.out = out;
      this.watching = watching;
      begin(m, x, y);
      for (int turn = 0; turn < MOST_TURNS && state == RUNNING; turn++) {
        boolean isThere = pc >= 0 && pc < tree.length;
        int what = isThere ? tree.what[pc] : EV_STOP;
        int at = isThere ? tree.place[pc] : 0;
        pc++;
        if (what == EV_NODE) {
          if (tree.sort[at] >= E_CALL && tree.sort[at] <= E_START) call(at);
          else node(at);
        } else if (what <= EV_ARG) {
          between(what, at);
        } else if (what <= EV_DO_END) {
          statement(what, at);
        } else if (what <= EV_TRY_END) {
          jumpOrTry(what, at);
        } else {
          around(what, at);
        }
        for (int k = 0; k < MOST_TURNS && why != 0 && state == RUNNING; k++) leavePart(frames[depth]);
      }
      finish();
    }

    private void begin(int m, int x, int y) {
      main = m;
      out.clear();
      sound = true;
      state = RUNNING;
      why = 0;
      used = 0;
      pc = 0;
      stack[0] = x;
      stack[1] = y;
      top = 2;
      depth = 0;
      frames[0].begin(world.members[m], 0, 0, top, NOTHING);
      Arrays.fill(thrown, 0L);
      for (int f = 0; f < world.memberCount; f++) statics[f] = world.members[f].fixed ? world.members[f].value : 0;
      for (int t = KNOWN_TYPES; t < world.typeCount; t++) giveSlots(t);
    }

    /** Where objects of a class hold its own fields: behind those of the classes above. */
    private void giveSlots(int t) {
      int slots = 0;
      int above = world.isInterface(t) ? T_OBJECT : world.superOf(t);
      for (int k = 0; k < MOST_TYPES && above >= KNOWN_TYPES; k++) {
        for (int f = world.types[above].firstMember; f < world.types[above].lastMember; f++) {
          if (isOfObjects(f)) slots++;
        }
        above = world.superOf(above);
      }
      for (int f = world.types[t].firstMember; f < world.types[t].lastMember; f++) {
        if (!isOfObjects(f)) continue;
        world.members[f].slot = slots;
        slots++;
      }
      world.types[t].slots = slots;
    }

    private boolean isOfObjects(int f) {
      return world.members[f].sort == D_FIELD && !world.members[f].is(IS_STATIC);
    }

    private void finish() {
      out.count[O_END] = state == ENDED ? 1 : state == THROWN ? 0 : 2;
      if (state == STOPPED) return;
      world.begin();
      if (state == THROWN) world.writeFull(classOf(carried));
      else if (world.members[main].kind == K_VOID) world.text.append("void");
      else write(stack[0], world.members[main].kind);
      for (int k = 0; k < world.text.length(); k++) out.result.append(world.text.charAt(k));
    }

    private void write(long value, int kind) {
      if (kind < K_NULL) world.writeValue(value, kind);
      else if (value == 0) world.text.append("null");
      else if (isBox(value)) world.writeDigits(unboxed(value));
      else world.writeFull(classOf(value));
    }

    // ---- values

    private static long boxed(long value) {
      return (long) (int) value << 2 | BOX;
    }

    private static boolean isBox(long ref) {
      return (ref & 3) == BOX;
    }

    private static long unboxed(long ref) {
      return ref >> 2;
    }

    /** From the lowest bits on: OBJECT, the class, where its fields are, which object it is. */
    private static long newRef(int t, int address, long serial) {
      return serial << 36 | (long) address << 12 | (long) t << 2 | OBJECT;
    }

    private static int classOf(long ref) {
      return isBox(ref) ? T_INTEGER : (int) (ref >> 2 & 255);
    }

    private static int addressOf(long ref) {
      return (int) (ref >> 12 & 0xffffff);
    }

    private void push(long value) {
      if (top >= STACK) return;
      stack[top] = value;
      top++;
    }

    private long pop() {
      if (top == 0) return 0;
      top--;
      return stack[top];
    }

    /** A place on the stack becomes of another kind; false if that throws. */
    private boolean fit(int index, int from, int to) {
      if (index < 0) return false;
      if (to >= K_REF) {
        if (from == K_INT) stack[index] = boxed(stack[index]);
      } else if (from == K_INTEGER) {
        if (stack[index] == 0) {
          throwKnown(T_NULL);
          return false;
        }
        stack[index] = unboxed(stack[index]);
      }
      return true;
    }

    /** Looks whether what was just computed is what was told of it. */
    private void see(int at) {
      int kind = judge.kind[at];
      if (!watching || why != 0 || state != RUNNING || top == 0 || kind == NO_KIND || kind == K_VOID) return;
      long value = stack[top - 1];
      boolean good = !judge.fixed[at] || judge.value[at] == value;
      if (kind == K_BOOLEAN) good &= value == 0 || value == 1;
      else if (kind < K_NULL) good &= value == Judge.wrap(kind, value);
      else if (kind == K_NULL) good &= value == 0;
      else good &= value == 0 || world.under(classOf(value), kind - K_REF);
      sound &= good;
    }

    // ---- steps, stops, throws

    private void step() {
      if (out.count[O_STEPS] >= MOST_STEPS) stop("LONG");
      else out.count[O_STEPS]++;
    }

    private void stop(String word) {
      state = STOPPED;
      out.result.append(word);
    }

    private void throwKnown(int t) {
      out.count[O_MADE]++;
      throwIt(newRef(t, 0, out.count[O_MADE]));
    }

    private void throwIt(long ref) {
      why = THROWS_IT;
      carried = ref;
      int serial = (int) (ref >> 36);
      int part = serial / 64;
      if (part >= thrown.length || (thrown[part] >> serial % 64 & 1) != 0) return;
      thrown[part] |= 1L << serial % 64;
      out.count[O_THROWN]++;
    }

    // ---- expressions

    private void between(int what, int at) {
      switch (what) {
        case EV_MIDDLE:
          middle(at);
          break;
        case EV_OTHERWISE:
          if (!fit(top - 1, judge.kind[tree.right[at]], judge.kind[at])) return;
          pc = tree.other[at] + 1;
          see(at);
          break;
        case EV_BEFORE:
          before(at);
          break;
        default:
          argument(at, tree.up[at]);
      }
    }

    private void middle(int at) {
      boolean isTrue = pop() != 0;
      if (tree.sort[at] == E_CHOICE) {
        if (!isTrue) pc = tree.jump[at] + 1;
      } else if (isTrue == (world.rows.token[at] == OR)) {
        push(isTrue ? 1 : 0);
        pc = tree.other[at] + 1;
        see(at);
      }
    }

    private void before(int at) {
      if (tree.sort[at] == E_NEW) {
        out.count[O_MADE]++;
        push(out.count[O_MADE]);
      } else if (tree.sort[at] == E_DOT_CALL && judge.sense[tree.left[at]] != S_TYPE) {
        if (top == 0 || stack[top - 1] == 0) throwKnown(T_NULL);
        else if (world.members[judge.meant[at]].is(IS_STATIC)) pop();
      }
    }

    private void argument(int arg, int call) {
      int place = 0;
      for (int a = tree.third[call]; a != arg && a != NONE && place < ROW; a = tree.next[a]) place++;
      if (judge.meant[call] < 0) return;
      fit(top - 1, judge.kind[arg], world.vars[world.members[judge.meant[call]].firstVar + place].kind);
    }

    private void node(int at) {
      int left = tree.left[at];
      switch (tree.sort[at]) {
        case E_NUMBER:
        case E_TRUTH:
          push(judge.value[at]);
          break;
        case E_NULL:
          push(0);
          break;
        case E_THIS:
          push(frames[depth].self);
          break;
        case E_NAME:
          name(at);
          break;
        case E_FIELD:
          if (judge.sense[left] != S_TYPE) fieldBehind(at, world.members[judge.meant[at]]);
          else if (tree.isAsked(at)) push(statics[judge.meant[at]]);
          break;
        case E_SUPER_FIELD:
          if (tree.isAsked(at)) push(fieldHere(judge.meant[at]));
          break;
        case E_MINUS:
          if (fit(top - 1, judge.kind[left], K_LONG)) push(Judge.wrap(judge.kind[at], -pop()));
          break;
        case E_NOT:
          push(1 - pop());
          break;
        case E_CAST:
          cast(judge.kind[left], judge.kind[at]);
          break;
        case E_INSTANCE:
          long ref = pop();
          push(ref != 0 && world.under(classOf(ref), world.typeAt(at + 1)) ? 1 : 0);
          break;
        case E_LOGIC:
          break;
        case E_CHOICE:
          fit(top - 1, judge.kind[tree.third[at]], judge.kind[at]);
          break;
        case E_SET:
        case E_ADD_SET:
          set(at, left, tree.right[at]);
          break;
        default:
          binary(at, judge.kind[left], judge.kind[tree.right[at]]);
      }
      if (watching && tree.isAsked(at)) see(at);
    }

    private void name(int at) {
      if (!tree.isAsked(at) || judge.sense[at] == S_TYPE) return;
      if (judge.sense[at] == S_FIELD) {
        push(fieldHere(judge.meant[at]));
        return;
      }
      Frame frame = frames[depth];
      int local = frame.placeOf(judge.meant[at]);
      if (!frame.has[local]) sound = false;
      push(frame.locals[local]);
    }

    /** A field that is named alone: a static one, or one of this. */
    private long fieldHere(int f) {
      return world.members[f].is(IS_STATIC) ? statics[f] : heap[cellOf(frames[depth].self, f)];
    }

    private int cellOf(long ref, int f) {
      int cell = addressOf(ref) + world.members[f].slot;
      return cell < heap.length ? cell : 0;
    }

    private void fieldBehind(int at, Decl field) {
      if (top == 0 || stack[top - 1] == 0) {
        throwKnown(T_NULL);
        return;
      }
      boolean isAsked = tree.isAsked(at);
      boolean isTarget = (tree.flags[at] & N_TARGET) != 0;
      boolean isStatic = field.is(IS_STATIC);
      long ref = stack[top - 1];
      if (isStatic || !isTarget) pop();
      if (isAsked) push(isStatic ? statics[judge.meant[at]] : heap[cellOf(ref, judge.meant[at])]);
    }

    private void cast(int from, int to) {
      if (!fit(top - 1, from, to)) return;
      long value = pop();
      boolean fails = to >= K_REF && value != 0 && !world.under(classOf(value), to - K_REF);
      if (fails) throwKnown(T_CAST);
      else push(Judge.wrap(to, value));
    }

    private void binary(int at, int one, int two) {
      // Two Integers are computed with by their values; as they are compared, they are what they are.
      boolean ints = tree.sort[at] != E_SAME || one < K_NULL || two < K_NULL;
      if (ints && (!fit(top - 2, one, K_LONG) || !fit(top - 1, two, K_LONG))) return;
      long right = pop();
      long left = pop();
      int token = world.rows.token[at];
      boolean divides = token == DIVIDE || token == REST;
      if (divides && right == 0) throwKnown(T_DIVIDE);
      else push(Judge.wrap(judge.kind[at], Judge.compute(token, left, right)));
    }

    private void set(int at, int left, int right) {
      int kind = judge.kind[left];
      if (!fit(top - 1, judge.kind[right], tree.sort[at] == E_SET ? kind : K_LONG)) return;
      long value = pop();
      if (tree.sort[at] == E_ADD_SET) value += pop();
      value = Judge.wrap(kind, value);
      int index = judge.meant[left];
      if (judge.sense[left] == S_VAR) {
        frames[depth].put(index, value);
      } else if (world.members[index].is(IS_STATIC)) {
        statics[index] = value;
      } else {
        long owner = tree.sort[left] == E_FIELD ? pop() : frames[depth].self;
        heap[cellOf(owner, index)] = value;
      }
      push(value);
    }

    // ---- calls

    private void call(int at) {
      int m = judge.meant[at];
      int args = tree.many[at];
      long self = frames[depth].self;
      int sort = tree.sort[at];
      boolean isStatic = m >= 0 && world.members[m].is(IS_STATIC);
      boolean hasBelow = sort == E_NEW || sort == E_DOT_CALL && !isStatic;
      int floor = top - args - (hasBelow ? 1 : 0);
      if (floor < 0) return;
      if (sort == E_NEW) {
        int t = world.typeAt(at + 1);
        if (m == KNOWN_START) {
          stack[floor] = newRef(t, 0, stack[floor]);
          see(at);
        } else {
          enter(m, newRef(t, room(t), stack[floor]), floor, AN_OBJECT);
        }
      } else if (sort == E_START) {
        if (m != KNOWN_START) enter(m, self, floor, NOTHING);
      } else if (isStatic) {
        enter(m, 0, floor, A_VALUE);
      } else if (sort == E_SUPER_CALL) {
        enter(m, self, floor, A_VALUE);
      } else {
        if (hasBelow) self = stack[floor];
        int found = world.methodLike(classOf(self), m);
        enter(found == NONE ? m : found, self, floor, A_VALUE);
      }
    }

    /** Room for the fields of a new object. */
    private int room(int t) {
      int address = used;
      int end = used + world.types[t].slots;
      if (end > MOST_HEAP) return 0;
      if (end > heap.length) {
        long[] wider = new long[Math.max(2 * heap.length, end)];
        System.arraycopy(heap, 0, wider, 0, used);
        heap = wider;
      }
      Arrays.fill(heap, used, end, 0L);
      used = end;
      return address;
    }

    private void enter(int m, long self, int floor, int wants) {
      Decl d = world.members[m];
      if (out.count[O_STEPS] >= MOST_STEPS) {
        stop("LONG");
        return;
      }
      if (depth >= MOST_CALLS) {
        stop("DEEP");
        return;
      }
      depth++;
      Frame frame = frames[depth];
      frame.begin(d, self, pc, floor, wants);
      for (int k = 0; k < d.params; k++) frame.put(d.firstVar + k, stack[top - d.params + k]);
      top = floor;
      pc = d.script;
      out.count[O_STEPS]++;
      out.count[O_CALLS]++;
      out.count[O_DEEPEST] = Math.max(out.count[O_DEEPEST], depth);
    }

    // ---- statements

    private void statement(int event, int at) {
      switch (event) {
        case EV_BEGIN:
          if (watching && (flow.reachOf(at) & 1) == 0) sound = false;
          if (tree.work[at] != W_BLOCK) step();
          break;
        case EV_LOCAL:
          local(tree.held[at], tree.root[at]);
          break;
        case EV_PLAIN:
          top = frames[depth].floor;
          break;
        case EV_IF:
          if (pop() == 0) pc = tree.jump[at] + 1;
          break;
        case EV_ELSE:
          pc = tree.other[at] + 1;
          break;
        case EV_WHILE:
        case EV_DO_TEST:
          step();
          break;
        case EV_LOOP:
          if (pop() == 0) pc = tree.other[at] + 1;
          break;
        case EV_WHILE_END:
          pc = tree.jump[at];
          break;
        case EV_DO_END:
          if (pop() != 0) pc = tree.jump[at];
          break;
        default:
      }
    }

    private void local(int v, int root) {
      frames[depth].has[frames[depth].placeOf(v)] = false;
      if (root != NONE && fit(top - 1, judge.kind[root], world.vars[v].kind)) frames[depth].put(v, pop());
    }

    private void jumpOrTry(int event, int at) {
      switch (event) {
        case EV_BREAK:
          jump(tree.held[at], tree.other[tree.held[at]] + 1);
          break;
        case EV_CONTINUE:
          boolean isWhile = tree.work[tree.held[at]] == W_WHILE;
          jump(tree.held[at], isWhile ? tree.jump[tree.held[at]] : tree.more[tree.held[at]]);
          break;
        case EV_RETURN:
          leaveWith(tree.root[at]);
          break;
        case EV_THROW:
          long ref = pop();
          if (ref == 0) throwKnown(T_NULL);
          else throwIt(ref);
          break;
        case EV_TELL:
          tellIt(tree.root[at]);
          break;
        case EV_TRY:
          frames[depth].enterTry(at);
          break;
        case EV_TRIED:
          endPart(frames[depth], at);
          break;
        case EV_CAUGHT:
          endPart(frames[depth], tree.root[at]);
          break;
        case EV_TRY_END:
          endFinally(frames[depth]);
          break;
        default:
      }
    }

    private void jump(int loop, int target) {
      why = JUMPS;
      carried = target;
      this.loop = loop;
    }

    private void leaveWith(int root) {
      if (root != NONE && !fit(top - 1, judge.kind[root], frames[depth].member.kind)) return;
      why = RETURNS;
      carried = root == NONE ? 0 : pop();
    }

    private void tellIt(int root) {
      if (out.count[O_TOLD] >= MOST_TOLD) {
        stop("FULL");
        return;
      }
      world.begin();
      write(pop(), judge.kind[root]);
      out.tell(world.text);
    }

    /** The end of a try's BLOCK or catch: its finally comes, or what stands behind it. */
    private void endPart(Frame frame, int at) {
      if (frame.tries == 0) return;
      if (tree.other[at] != NONE) {
        beginFinally(frame, at);
      } else {
        frame.tries--;
        pc = tree.jump[at] + 1;
      }
    }

    private void beginFinally(Frame frame, int at) {
      frame.enterFinally(why, carried, loop);
      why = 0;
      pc = tree.other[at];
    }

    /** What led to the finally is gone on with. */
    private void endFinally(Frame frame) {
      if (frame.tries == 0) return;
      frame.tries--;
      why = frame.tryWhy[frame.tries];
      carried = frame.tryCarried[frame.tries];
      loop = frame.tryLoop[frame.tries];
    }

    // ---- what throws, returns or jumps goes out of the tries and the calls

    private void leavePart(Frame frame) {
      int last = frame.tries - 1;
      if (last >= 0) leaveTry(frame, frame.tryAt[last], frame.tryPart[last]);
      else if (why == JUMPS) arrive();
      else if (why == RETURNS) leaveCall(frame);
      else leaveByThrow(frame);
    }

    private void arrive() {
      pc = (int) carried;
      why = 0;
    }

    private void leaveTry(Frame frame, int at, int part) {
      if (why == JUMPS && at < loop) {
        arrive();
        return;
      }
      top = frame.floor;
      int c = why == THROWS_IT && part == IN_TRIED ? catchOf(at) : NONE;
      if (c != NONE) {
        frame.tryPart[frame.tries - 1] = IN_CATCH;
        frame.put(tree.more[c], carried);
        pc = tree.jump[c];
        why = 0;
      } else if (part != IN_FINALLY && tree.other[at] != NONE) {
        beginFinally(frame, at);
      } else {
        frame.tries--;
      }
    }

    /** The first catch of a try whose REF what is thrown is of. */
    private int catchOf(int at) {
      for (int c = tree.held[at], k = 0; c != NONE && k < MOST_TOKENS; c = tree.held[c], k++) {
        int ref = world.typeAt(c + 2);
        if (ref != NONE && world.under(classOf(carried), ref)) return c;
      }
      return NONE;
    }

    private void leaveCall(Frame frame) {
      top = frame.floor;
      pc = frame.back;
      why = 0;
      depth--;
      boolean pushes = frame.wants == AN_OBJECT || frame.wants == A_VALUE && frame.member.kind != K_VOID;
      if (!pushes) return;
      push(frame.wants == AN_OBJECT ? frame.self : carried);
      if (tree.what[pc - 1] == EV_NODE) see(tree.place[pc - 1]);
    }

    private void leaveByThrow(Frame frame) {
      if (depth == 0) {
        state = THROWN;
        return;
      }
      int t = classOf(carried);
      if (watching && world.isChecked(t) && !linker.isThrownBy(frame.member, t)) sound = false;
      top = frame.floor;
      depth--;
    }

    // ---- what is done around the bodies

    private void around(int event, int at) {
      Frame frame = frames[depth];
      switch (event) {
        case EV_SUPER:
          int start = linker.unsaidStart(at);
          if (start >= 0) enter(start, frame.self, top, NOTHING);
          break;
        case EV_FIELDS:
          nextField(frame, world.types[at].firstMember, world.types[at].lastMember, false);
          break;
        case EV_STATICS:
          nextField(frame, 0, world.memberCount, true);
          break;
        case EV_FIELD_END:
          fieldEnd(frame, at);
          break;
        case EV_LEAVE:
          if (frame.member.kind != K_VOID) sound = false;
          why = RETURNS;
          carried = 0;
          break;
        case EV_MAIN:
          enter(main, 0, 0, A_VALUE);
          break;
        default:
          state = ENDED;
      }
    }

    /** Goes on with the next field that gets what stands behind its =; then it is come here again. */
    private void nextField(Frame frame, int first, int last, boolean isStatic) {
      int f = frame.field == NONE ? first : frame.field;
      while (f < last && !isGiven(world.members[f], isStatic)) f++;
      frame.field = NONE;
      if (f >= last) return;
      frame.field = f + 1;
      frame.resume = pc - 1;
      pc = world.members[f].script;
    }

    private static boolean isGiven(Decl d, boolean isStatic) {
      return d.sort == D_FIELD && d.is(HAS_VALUE) && d.is(IS_STATIC) == isStatic && !d.fixed;
    }

    private void fieldEnd(Frame frame, int f) {
      Decl field = world.members[f];
      if (!fit(top - 1, judge.kind[field.root], field.kind)) return;
      long value = pop();
      if (field.is(IS_STATIC)) statics[f] = value;
      else heap[cellOf(frame.self, f)] = value;
      pc = frame.resume;
    }
  }
}
