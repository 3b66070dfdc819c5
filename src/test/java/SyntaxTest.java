import java.util.ArrayList;
import java.util.Arrays;
import java.util.HashMap;
import java.util.HashSet;
import java.util.LinkedHashSet;
import java.util.List;
import java.util.Map;
import java.util.Objects;
import java.util.Set;

/**
 * The place of the fault SYNTAX in known texts that were changed at random, against the document's grammar, word by
 * word: a recogniser keeps all ways in which a UNIT may begin so (after Earley), so it knows the first token with
 * which none does.
 */
public final class SyntaxTest {
  private static final String[] RULES = {
    "UNIT : [ 'package' NAME ';' ] { 'import' NAME '.' NAME ';' } { TYPE }",
    "TYPE : [ 'abstract' ] 'class' NAME [ 'extends' REF ] [ 'implements' REF { ',' REF } ] '{' { MEMBER } '}' "
        + "| 'interface' NAME [ 'extends' REF { ',' REF } ] '{' { SLOT } '}'",
    "REF : NAME | KNOWN",
    "KIND : 'boolean' | 'byte' | 'int' | 'long' | REF",
    "MEMBER : [ 'static' ] [ 'final' ] KIND NAME [ '=' EXPR ] ';' | [ 'static' ] RESULT NAME '(' PARAMS ')' THROWS BLOCK "
        + "| 'abstract' RESULT NAME '(' PARAMS ')' THROWS ';' "
        + "| NAME '(' PARAMS ')' THROWS '{' [ ( 'this' | 'super' ) ARGS ';' ] { ITEM } '}'",
    "SLOT : KIND NAME '=' EXPR ';' | RESULT NAME '(' PARAMS ')' THROWS ';'",
    "RESULT : KIND | 'void'",
    "PARAMS : [ KIND NAME { ',' KIND NAME } ]",
    "THROWS : [ 'throws' REF { ',' REF } ]",
    "BLOCK : '{' { ITEM } '}'",
    "ITEM : [ 'final' ] KIND NAME [ '=' EXPR ] ';' | STATEMENT",
    "STATEMENT : BLOCK | ';' | 'if' '(' EXPR ')' STATEMENT [ 'else' STATEMENT ] | 'while' '(' EXPR ')' STATEMENT "
        + "| 'do' STATEMENT 'while' '(' EXPR ')' ';' | 'break' ';' | 'continue' ';' | 'return' [ EXPR ] ';' | 'throw' EXPR ';' "
        + "| 'tell' EXPR ';' | 'try' BLOCK CATCH { CATCH } [ 'finally' BLOCK ] | 'try' BLOCK 'finally' BLOCK | EXPR ';'",
    "CATCH : 'catch' '(' REF NAME ')' BLOCK",
    "EXPR : COND [ ( '=' | '+=' ) EXPR ]",
    "COND : BINARY [ '?' EXPR ':' COND ]",
    "BINARY : BOTH { '||' BOTH }",
    "BOTH : SAME { '&&' SAME }",
    "SAME : LESS { ( '==' | '!=' ) LESS }",
    "LESS : SUM { ( '<' | '<=' ) SUM | 'instanceof' REF }",
    "SUM : PRODUCT { ( '+' | '-' ) PRODUCT }",
    "PRODUCT : UNARY { ( '*' | 'div' | '%' ) UNARY }",
    "UNARY : '-' UNARY | BEHIND_REF",
    "BEHIND_REF : '!' UNARY | '(' ( 'boolean' | 'byte' | 'int' | 'long' ) ')' UNARY | '(' REF ')' BEHIND_REF | POST",
    "POST : PRIMARY { '.' NAME [ ARGS ] }",
    "PRIMARY : NUMBER | 'true' | 'false' | 'null' | 'this' | 'super' '.' NAME [ ARGS ] | NAME [ ARGS ] | 'new' REF ARGS "
        + "| '(' EXPR ')'",
    "ARGS : '(' [ EXPR { ',' EXPR } ] ')'",
  };
  private static final String[] WORDS = Door.WORDS.split(" ");
  private static final Map<String, List<String[]>> GRAMMAR = new HashMap<>();
  private static long seed = 20261118;

  public static void main(String[] args) {
    for (String rule : RULES) {
      int colon = rule.indexOf(" : ");
      List<String> words = new ArrayList<>(Arrays.asList(rule.substring(colon + 3).split(" ")));
      words.add("end");
      read(rule.substring(0, colon), words, new int[1], "end");
    }
    int good = 0;
    for (int round = 0; round < 800; round++) good += round(round % 5) ? 1 : 0;
    Door.due("some texts are good, some are not", good > 60 && good < 740, true);
    Door.end();
  }

  private static int random(int below) {
    seed = seed * 6364136223846793005L + 1442695040888963407L;
    return (int) (seed >>> 33) % below;
  }

  private static boolean round(int sample) {
    Sourcedoor door = new Sourcedoor();
    door.sample(0, sample);
    for (int k = random(3); k > 0; k--) {
      int from = random(door.ofUnit(0, 0));
      int to = random(door.ofUnit(0, 0));
      int token = random(3) == 0 ? random(64) : door.token(0, from);
      if (random(2) == 0) door.change(0, to, token);
      else if (random(2) == 0) door.insert(0, to, token);
      else door.remove(0, to);
    }
    if (random(3) == 0) askInstance(door);
    if (random(10) == 0) door.cut(0, 1 + random(60));
    int[] text = new int[door.ofUnit(0, 0)];
    for (int place = 0; place < text.length; place++) text[place] = door.token(0, place);
    int want = fault(text);
    int got = door.fault(0, 0, 0) == 1 ? door.fault(0, 0, 1) : -1;
    Door.due("fault of syntax in " + door.text(0), got, want);
    return want == -1;
  }

  /** Puts an instanceof and its REF behind what may be a UNARY. */
  private static void askInstance(Sourcedoor door) {
    int size = door.ofUnit(0, 0);
    int to = random(size);
    for (int k = 0; k < size && !isEnd(door.token(0, to)); k++) to = (to + 1) % size;
    door.insert(0, to + 1, 32);
    door.insert(0, to + 2, random(2) == 0 ? 57 : 100 + random(26));
    if (random(2) == 0) door.insert(0, to + 3, 41 + random(16));
    if (random(2) == 0) door.insert(0, to + 4, 1000);
  }

  private static boolean isEnd(int token) {
    return token == 27 || token == 29 || token == 37 || token >= 100;
  }

  /** One of the alternatives of a rule after the other one; what stands in [ ], { } and ( ) becomes a rule of its own. */
  private static void read(String name, List<String> words, int[] next, String end) {
    List<String> now = new ArrayList<>();
    List<String[]> all = GRAMMAR.computeIfAbsent(name, n -> new ArrayList<>());
    for (String word = words.get(next[0]++); !word.equals(end); word = words.get(next[0]++)) {
      String inner = name + "/" + next[0];
      if (word.equals("|")) {
        all.add(now.toArray(new String[0]));
        now = new ArrayList<>();
      } else if (word.equals("[")) {
        read(inner, words, next, "]");
        GRAMMAR.get(inner).add(new String[0]);
        now.add(inner);
      } else if (word.equals("{")) {
        read(inner + "/one", words, next, "}");
        GRAMMAR.put(inner, List.of(new String[0], new String[] {inner, inner + "/one"}));
        now.add(inner);
      } else if (word.equals("(")) {
        read(inner, words, next, ")");
        now.add(inner);
      } else {
        now.add(word);
      }
    }
    all.add(now.toArray(new String[0]));
  }

  private static boolean isToken(String symbol, int token) {
    switch (symbol) {
      case "NAME": return token >= 100 && token < 140;
      case "KNOWN": return token >= 57 && token <= 63;
      case "NUMBER": return token >= 1000;
      default: return token < 64 && symbol.equals("'" + WORDS[token] + "'");
    }
  }

  /** An alternative of a rule, how far it was gone through, and where it began. */
  private static final class Way {
    final String name;
    final String[] symbols;
    final int dot;
    final int from;

    Way(String name, String[] symbols, int dot, int from) {
      this.name = name;
      this.symbols = symbols;
      this.dot = dot;
      this.from = from;
    }

    String next() {
      return dot < symbols.length ? symbols[dot] : null;
    }

    Way on() {
      return new Way(name, symbols, dot + 1, from);
    }

    @Override
    public boolean equals(Object other) {
      return other instanceof Way && ((Way) other).symbols == symbols && ((Way) other).dot == dot && ((Way) other).from == from;
    }

    @Override
    public int hashCode() {
      return Objects.hash(System.identityHashCode(symbols), dot, from);
    }
  }

  /** The place of the first token with which no UNIT begins; -1 if the text is one. */
  private static int fault(int[] text) {
    List<Set<Way>> ahead = new ArrayList<>();
    Set<Way> now = new LinkedHashSet<>();
    for (String[] symbols : GRAMMAR.get("UNIT")) now.add(new Way("UNIT", symbols, 0, 0));
    for (int place = 0; ; place++) {
      ahead.add(now);
      boolean ends = widen(ahead, place);
      if (place == text.length) return ends ? -1 : place;
      Set<Way> next = new LinkedHashSet<>();
      for (Way way : now) {
        if (way.next() != null && !GRAMMAR.containsKey(way.next()) && isToken(way.next(), text[place])) next.add(way.on());
      }
      if (next.isEmpty() || opensNine(text, place)) return place;
      now = next;
    }
  }

  private static boolean opensNine(int[] text, int place) {
    int open = 0;
    for (int k = 0; k < place; k++) {
      if (text[k] == 34 || text[k] == 36) open++;
      if (text[k] == 35 || text[k] == 37) open--;
    }
    return open == 8 && (text[place] == 34 || text[place] == 36);
  }

  /** Adds all ways that begin, or go on, at a place; tells whether a UNIT may end there. */
  private static boolean widen(List<Set<Way>> ahead, int place) {
    Set<Way> now = ahead.get(place);
    List<Way> queue = new ArrayList<>(now);
    Set<String> empty = new HashSet<>();
    boolean ends = false;
    for (int k = 0; k < queue.size(); k++) {
      Way way = queue.get(k);
      List<Way> more = new ArrayList<>();
      if (way.next() == null) {
        ends |= way.name.equals("UNIT");
        if (way.from == place) empty.add(way.name);
        for (Way outer : ahead.get(way.from)) {
          if (way.name.equals(outer.next())) more.add(outer.on());
        }
      } else if (GRAMMAR.containsKey(way.next())) {
        for (String[] symbols : GRAMMAR.get(way.next())) more.add(new Way(way.next(), symbols, 0, place));
        if (empty.contains(way.next())) more.add(way.on());
      }
      for (Way each : more) {
        if (now.add(each)) queue.add(each);
      }
    }
    return ends;
  }
}
