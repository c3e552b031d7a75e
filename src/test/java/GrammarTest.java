import java.util.ArrayList;
import java.util.HashMap;
import java.util.HashSet;
import java.util.List;
import java.util.Map;
import java.util.Set;

/**
 * The rows of section 4 as a grammar: units are made up by it and then spoiled, and read by the grammar itself (as
 * Earley has shown), which tells the first token with which the tokens so far are not the beginning of a unit. The word
 * typedef is left out: with typedef names it is not the grammar alone that tells.
 */
public final class GrammarTest {
  private static final int UNITS = 4000;
  /** A rule in a line: parts that are no rules' names stand for themselves; [ ] may be left out, * is any number. */
  private static final String[] RULES = {
    "unit : ; unit external",
    "external : specifiers declarators ';' ; specifiers ';' ; specifiers fdeclarator '{' items '}'",
    "specifiers : word ; specifiers word",
    "plain : pword ; plain pword",
    "word : pword ; extern ; static ; inline ; auto ; register",
    "pword : const ; volatile ; restrict ; void ; char ; short ; int ; long ; float ; double ; signed ; unsigned ; tagged",
    "tagged : su id ; su '{' members '}' ; su id '{' members '}' ; enum id ; enum '{' enumerators '}' ; enum id '{' enumerators '}'",
    "su : struct ; union",
    "enumerators : enumerator ; enumerator ',' ; enumerator ',' enumerators",
    "enumerator : id ; id '=' conditional",
    "members : ; members member",
    "member : plain fields ';'",
    "fields : field ; fields ',' field",
    "field : declarator ; declarator ':' conditional ; ':' conditional",
    "declarators : initdeclarator ; declarators ',' initdeclarator",
    "initdeclarator : declarator ; declarator '=' initialiser",
    "pointers : ; pointers pointer",
    "pointer : '*' ; pointer qualifier",
    "qualifier : const ; volatile ; restrict",
    "declarator : pointers direct",
    "direct : id ; '(' declarator ')' ; direct '[' ']' ; direct '[' conditional ']' ; direct '(' parameters ')'",
    "fdeclarator : pointers direct '(' parameters ')'",
    "parameters : ; void ; row ; row ',' '...'",
    "row : parameter ; row ',' parameter",
    "parameter : specifiers ; specifiers declarator ; specifiers abstract",
    "abstract : pointer pointers ; pointers adirect",
    "adirect : '(' abstract ')' ; suffix ; adirect suffix",
    "suffix : '[' ']' ; '[' conditional ']' ; '(' parameters ')'",
    "typename : plain ; plain abstract",
    "initialiser : assignment ; '{' '}' ; '{' parts '}' ; '{' parts ',' '}'",
    "parts : part ; parts ',' part",
    "part : initialiser ; designators '=' initialiser",
    "designators : designator ; designators designator",
    "designator : '[' conditional ']' ; '.' id",
    "items : ; items item",
    "item : specifiers ';' ; specifiers declarators ';' ; statement",
    "statement : id ':' statement ; case conditional ':' statement ; default ':' statement ; '{' items '}' ; ';' ; expression ';' ; if '(' expression ')' statement ; if '(' expression ')' statement else statement",
    "statement : switch '(' expression ')' statement ; while '(' expression ')' statement ; do statement while '(' expression ')' ';' ; for '(' first any ';' any ')' statement ; goto id ';' ; continue ';' ; break ';' ; return ';' ; return expression ';'",
    "first : ';' ; expression ';' ; specifiers ';' ; specifiers declarators ';'",
    "any : ; expression",
    "expression : assignment ; expression ',' assignment",
    "assignment : conditional ; unary assign assignment",
    "assign : '=' ; '*=' ; '/=' ; '%=' ; '+=' ; '-=' ; '<<=' ; '>>=' ; '&=' ; '^=' ; '|='",
    "conditional : binary ; binary '?' expression ':' conditional",
    "binary : cast ; binary sign cast",
    "sign : '*' ; '/' ; '%' ; '+' ; '-' ; '<<' ; '>>' ; '<' ; '>' ; '<=' ; '>=' ; '==' ; '!=' ; '&' ; '^' ; '|' ; '&&' ; '||'",
    "cast : unary ; '(' typename ')' cast",
    "unary : postfix ; '++' unary ; '--' unary ; '&' cast ; '*' cast ; '+' cast ; '-' cast ; '~' cast ; '!' cast ; sizeof unary ; sizeof '(' typename ')'",
    "postfix : primary ; postfix '[' expression ']' ; postfix '(' ')' ; postfix '(' arguments ')' ; postfix '.' id ; postfix '->' id ; postfix '++' ; postfix '--'",
    "arguments : assignment ; arguments ',' assignment",
    "primary : id ; number ; string ; '(' expression ')' ; va_arg '(' assignment ',' typename ')'"
  };

  private final Map<String, List<String[]>> rules = new HashMap<>();
  private final Map<String, Integer> least = new HashMap<>();
  private final Set<String> empty = new HashSet<>();
  private final List<String> signs = new ArrayList<>();
  private long state = 31415926535L;

  public static void main(String[] args) {
    GrammarTest test = new GrammarTest();
    test.readRules();
    for (int i = 0; i < UNITS; i++) {
      test.unit(i);
    }
    Bench.finish();
  }

  private int random(int below) {
    state ^= state << 13;
    state ^= state >>> 7;
    state ^= state << 17;
    return (int) ((state >>> 1) % below);
  }

  private void readRules() {
    for (String line : RULES) {
      String name = line.substring(0, line.indexOf(" :"));
      // A ; in quotes is a sign.
      for (String side : line.substring(line.indexOf(" :") + 2).replace("';'", "'SEMI'").split(";")) {
        String[] parts = side.isBlank() ? new String[0] : side.trim().split(" +");
        for (int i = 0; i < parts.length; i++) {
          parts[i] = parts[i].startsWith("'") ? parts[i].substring(1, parts[i].length() - 1).replace("SEMI", ";") : parts[i];
        }
        rules.computeIfAbsent(name, k -> new ArrayList<>()).add(parts);
      }
    }
    for (List<String[]> sides : rules.values()) {
      for (String[] side : sides) {
        for (String part : side) {
          if (!rules.containsKey(part) && !signs.contains(part)) {
            signs.add(part);
          }
        }
      }
    }
    findLeast();
  }

  /** The fewest tokens of each rule, so that what is made up comes to an end; and which rules may be nothing. */
  private void findLeast() {
    boolean more = true;
    while (more) {
      more = false;
      for (Map.Entry<String, List<String[]>> rule : rules.entrySet()) {
        for (String[] side : rule.getValue()) {
          int cost = costOf(side);
          if (cost < least.getOrDefault(rule.getKey(), 10000)) {
            least.put(rule.getKey(), cost);
            more = true;
          }
        }
      }
    }
    for (Map.Entry<String, Integer> entry : least.entrySet()) {
      if (entry.getValue() == 0) {
        empty.add(entry.getKey());
      }
    }
  }

  private int costOf(String[] side) {
    int cost = 0;
    for (String part : side) {
      cost += rules.containsKey(part) ? least.getOrDefault(part, 10000) : 1;
    }
    return Math.min(cost, 10000);
  }

  private void makeUp(String part, int room, List<String> out) {
    List<String[]> sides = rules.get(part);
    if (sides == null) {
      out.add(part);
      return;
    }
    List<String[]> fitting = new ArrayList<>();
    for (String[] side : sides) {
      if (costOf(side) <= Math.max(room, least.get(part))) {
        fitting.add(side);
      }
    }
    String[] side = fitting.get(random(fitting.size()));
    int left = room - costOf(side);
    for (String p : side) {
      int here = left > 0 ? random(left + 1) : 0;
      makeUp(p, (rules.containsKey(p) ? least.get(p) : 1) + here, out);
      left -= here;
    }
  }

  private void spoil(List<String> tokens) {
    int at = tokens.isEmpty() ? 0 : random(tokens.size());
    String other = signs.get(random(signs.size()));
    switch (random(5)) {
      case 0:
        if (!tokens.isEmpty()) {
          tokens.remove(at);
        }
        break;
      case 1: tokens.add(at, other); break;
      case 2:
        if (!tokens.isEmpty()) {
          tokens.set(at, other);
        }
        break;
      case 3:
        if (at + 1 < tokens.size()) {
          tokens.set(at, tokens.set(at + 1, tokens.get(at)));
        }
        break;
      default:
        while (tokens.size() > at + 1) {
          tokens.remove(tokens.size() - 1);
        }
    }
  }

  private void unit(int number) {
    List<String> tokens = new ArrayList<>();
    int count = 1 + random(3);
    for (int i = 0; i < count; i++) {
      makeUp("external", 3 + random(30), tokens);
    }
    for (int i = random(3); i > 0; i--) {
      spoil(tokens);
    }
    if (tokens.isEmpty() || tokens.size() > 120) {
      return;
    }
    StringBuilder text = new StringBuilder();
    for (String token : tokens) {
      // Names differ, so that labels and members are seldom there twice; strings behind each other would be one token.
      text.append(token.equals("id") ? "n" + random(20) : token.equals("number") ? "" + random(9) : token.equals("string") ? "\"s\"" : token).append('\n');
    }
    for (int i = 1; i < tokens.size(); i++) {
      if (tokens.get(i).equals("string") && tokens.get(i - 1).equals("string")) {
        return;
      }
    }
    int wrong = firstWrong(tokens);
    Bench b = new Bench().source(text.toString());
    int code = b.x.compile();
    String told = String.join(" ", tokens);
    if (wrong < 0) {
      Bench.due("no fault 3: " + told, code == 3 || code == 5 ? code : 0, 0);
    } else {
      Bench.due("fault of " + told, code, 3);
      Bench.due("line of " + told, b.x.faultLine(), Math.min(wrong, tokens.size() - 1) + 1);
    }
  }

  /** A rule that is being read: its side, how many parts of it are there, and where it began. */
  private static final class State {
    final String name;
    final String[] side;
    final int dot;
    final int from;

    State(String name, String[] side, int dot, int from) {
      this.name = name;
      this.side = side;
      this.dot = dot;
      this.from = from;
    }

    String next() {
      return dot < side.length ? side[dot] : null;
    }

    @Override
    public boolean equals(Object o) {
      State s = (State) o;
      return s.side == side && s.dot == dot && s.from == from && s.name.equals(name);
    }

    @Override
    public int hashCode() {
      return System.identityHashCode(side) * 31 + dot * 7 + from;
    }
  }

  private static void add(List<State> list, Set<State> set, State s) {
    if (set.add(s)) {
      list.add(s);
    }
  }

  /** The number of the first token that can't come; that of tokens if more must come; -1 if all is a unit. */
  private int firstWrong(List<String> tokens) {
    List<List<State>> sets = new ArrayList<>();
    List<State> now = new ArrayList<>();
    Set<State> known = new HashSet<>();
    for (String[] side : rules.get("unit")) {
      add(now, known, new State("unit", side, 0, 0));
    }
    for (int i = 0; i <= tokens.size(); i++) {
      sets.add(now);
      List<State> next = new ArrayList<>();
      Set<State> nextKnown = new HashSet<>();
      for (int k = 0; k < now.size(); k++) {
        State s = now.get(k);
        String part = s.next();
        if (part == null) {
          List<State> origin = sets.get(s.from);
          for (int j = 0; j < origin.size(); j++) {
            State o = origin.get(j);
            if (s.name.equals(o.next())) {
              add(now, known, new State(o.name, o.side, o.dot + 1, o.from));
            }
          }
        } else if (rules.containsKey(part)) {
          for (String[] side : rules.get(part)) {
            add(now, known, new State(part, side, 0, i));
          }
          if (empty.contains(part)) {
            add(now, known, new State(s.name, s.side, s.dot + 1, s.from));
          }
        } else if (i < tokens.size() && part.equals(tokens.get(i))) {
          add(next, nextKnown, new State(s.name, s.side, s.dot + 1, s.from));
        }
      }
      if (i == tokens.size()) {
        for (State s : now) {
          if (s.name.equals("unit") && s.next() == null && s.from == 0) {
            return -1;
          }
        }
        return i;
      }
      if (next.isEmpty()) {
        return i;
      }
      now = next;
      known = nextKnown;
    }
    return -1;
  }
}
