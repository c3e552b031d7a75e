import java.util.ArrayList;
import java.util.LinkedHashMap;
import java.util.LinkedList;
import java.util.List;
import java.util.Map;
import java.util.Set;
import java.util.TreeSet;

/**
 * Macros and rows with their names are made up, and replaced here as section 2 tells. What comes out, how many pieces
 * are made and which fault is told must be the same.
 */
public final class MacroTest {
  private static final int TEXTS = 1500;
  private static final int WIDE_TEXTS = 40;
  private static final int MOST = 16000;
  private static final String[] SIGNS = {"+", "-", "->", "++", "<", "<<", "=", "==", ";", "*", ".", "&", "#", "##", ",", "(", ")"};

  private long state = 977977977L;
  private final Map<String, Macro> macros = new LinkedHashMap<>();
  private int pieces;

  public static void main(String[] args) {
    MacroTest test = new MacroTest();
    for (int i = 0; i < TEXTS; i++) {
      test.text();
    }
    for (int i = 0; i < WIDE_TEXTS; i++) {
      test.wideText();
    }
    Bench.finish();
  }

  private int random(int below) {
    state ^= state << 13;
    state ^= state >>> 7;
    state ^= state << 17;
    return (int) ((state >>> 1) % below);
  }

  private static final class Piece {
    final String spelling;
    final boolean spaced;
    final Set<String> hidden;
    final int line;

    Piece(String spelling, boolean spaced, Set<String> hidden, int line) {
      this.spelling = spelling;
      this.spaced = spaced;
      this.hidden = hidden;
      this.line = line;
    }
  }

  private static final class Macro {
    boolean called;
    boolean rest;
    final List<String> parameters = new ArrayList<>();
    List<Piece> body = new ArrayList<>();

    int parameter(String name) {
      int i = called ? parameters.indexOf(name) : -1;
      return i < 0 && rest && name.equals("__VA_ARGS__") ? parameters.size() : i;
    }
  }

  private static final class Fault extends RuntimeException {
    final int code;
    final int line;

    Fault(int code, int line) {
      super(null, null, false, false);
      this.code = code;
      this.line = line;
    }
  }

  // Cutting.

  private static boolean isLetter(char c) {
    return Character.isLetterOrDigit(c) || c == '_';
  }

  /** Where the piece that begins at a place ends; the place itself if there is none. */
  private static int end(String s, int from) {
    char c = s.charAt(from);
    int i = from + 1;
    if (Character.isDigit(c) || c == '.' && i < s.length() && Character.isDigit(s.charAt(i))) {
      while (i < s.length() && (isLetter(s.charAt(i)) || s.charAt(i) == '.' || "+-".indexOf(s.charAt(i)) >= 0 && "eEpP".indexOf(s.charAt(i - 1)) >= 0)) {
        i++;
      }
      return i;
    }
    if (isLetter(c)) {
      while (i < s.length() && isLetter(s.charAt(i))) {
        i++;
      }
      return i;
    }
    if (c == '"' || c == '\'') {
      while (i < s.length() && s.charAt(i) != c) {
        i += s.charAt(i) == '\\' ? 2 : 1;
      }
      return i < s.length() ? i + 1 : from;
    }
    for (String sign : new String[] {"...", "<<=", ">>=", "->", "++", "--", "<<", ">>", "<=", ">=", "==", "!=", "&&", "||", "*=", "/=", "%=", "+=", "-=", "&=", "^=", "|=", "##"}) {
      if (s.startsWith(sign, from)) {
        return from + sign.length();
      }
    }
    return "[](){}.&*+-~!/%<>^|?:;=,#".indexOf(c) >= 0 ? i : from;
  }

  private static List<Piece> cut(String s, int line) {
    List<Piece> list = new ArrayList<>();
    boolean spaced = false;
    for (int i = 0; i < s.length(); ) {
      if (s.charAt(i) == ' ') {
        spaced = true;
        i++;
        continue;
      }
      int to = end(s, i);
      list.add(new Piece(s.substring(i, to), spaced, Set.of(), line));
      spaced = false;
      i = to;
    }
    return list;
  }

  // Replacing.

  private static int eighths(String s) {
    return (s.length() + 7) / 8;
  }

  private void count(int more, int line) {
    if (pieces + more > MOST) {
      throw new Fault(5, line);
    }
    pieces += more;
  }

  private static Set<String> union(Set<String> a, Set<String> b) {
    Set<String> all = new TreeSet<>(a);
    all.addAll(b);
    return all;
  }

  private static Set<String> common(Set<String> a, Set<String> b) {
    Set<String> both = new TreeSet<>(a);
    both.retainAll(b);
    return both;
  }

  private List<Piece> replace(List<Piece> row, int outermost, int depth) {
    LinkedList<Piece> in = new LinkedList<>(row);
    List<Piece> out = new ArrayList<>();
    while (!in.isEmpty()) {
      Piece name = in.removeFirst();
      Macro macro = macros.get(name.spelling);
      if (macro == null || name.hidden.contains(name.spelling) || macro.called && (in.isEmpty() || !in.getFirst().spelling.equals("("))) {
        out.add(name);
        continue;
      }
      int line = outermost > 0 ? outermost : name.line;
      Set<String> hidden = name.hidden;
      List<List<Piece>> arguments = new ArrayList<>();
      if (macro.called) {
        Piece close = collect(macro, in, arguments, line);
        hidden = common(hidden, close.hidden);
      }
      hidden = union(hidden, Set.of(name.spelling));
      List<Piece> body = build(macro, arguments, line, depth);
      List<Piece> put = new ArrayList<>();
      int more = 0;
      for (Piece p : body) {
        more += p.spelling.startsWith("\"") ? eighths(p.spelling) : 1;
      }
      count(more, line);
      for (Piece p : body) {
        put.add(new Piece(p.spelling, put.isEmpty() ? name.spaced : p.spaced, union(p.hidden, hidden), line));
      }
      in.addAll(0, put);
    }
    return out;
  }

  private Piece collect(Macro macro, LinkedList<Piece> in, List<List<Piece>> arguments, int line) {
    in.removeFirst();
    List<Piece> one = new ArrayList<>();
    int open = 0;
    while (!in.isEmpty()) {
      Piece p = in.removeFirst();
      if (p.spelling.equals(")") && open == 0) {
        arguments.add(one);
        int wanted = macro.parameters.size();
        boolean none = arguments.size() == 1 && one.isEmpty();
        if (macro.rest && arguments.size() == wanted) {
          arguments.add(new ArrayList<>());
        }
        boolean right = macro.rest ? arguments.size() == wanted + 1 : wanted == 0 ? none : arguments.size() == wanted;
        if (!right) {
          throw new Fault(1, line);
        }
        return p;
      }
      if (p.spelling.equals(",") && open == 0 && !(macro.rest && arguments.size() == macro.parameters.size())) {
        arguments.add(one);
        one = new ArrayList<>();
      } else {
        open += p.spelling.equals("(") ? 1 : p.spelling.equals(")") ? -1 : 0;
        one.add(p);
      }
    }
    throw new Fault(1, line);
  }

  private String stringOf(List<Piece> argument, int line) {
    StringBuilder s = new StringBuilder("\"");
    for (int i = 0; i < argument.size(); i++) {
      Piece p = argument.get(i);
      s.append(i > 0 && p.spaced ? " " : "");
      boolean quoted = p.spelling.startsWith("\"") || p.spelling.startsWith("'");
      s.append(quoted ? p.spelling.replace("\\", "\\\\").replace("\"", "\\\"") : p.spelling);
    }
    String string = s.append("\"").toString();
    count(eighths(string), line);
    return string;
  }

  private List<Piece> build(Macro macro, List<List<Piece>> arguments, int line, int depth) {
    List<Piece> body = macro.body;
    int n = body.size();
    // A part of the row: its pieces; an empty part is an argument of nothing beside ##.
    List<List<Piece>> parts = new ArrayList<>();
    List<Boolean> pastes = new ArrayList<>();
    String[] strings = new String[n];
    for (int i = 0; i < n; i++) {
      if (macro.called && body.get(i).spelling.equals("#")) {
        strings[i] = stringOf(arguments.get(macro.parameter(body.get(i + 1).spelling)), line);
        i++;
      }
    }
    List<List<Piece>> replaced = new ArrayList<>();
    for (int i = 0; i < arguments.size(); i++) {
      replaced.add(null);
    }
    for (int i = 0; i < n; i++) {
      if (strings[i] != null) {
        i++;
        continue;
      }
      int k = macro.parameter(body.get(i).spelling);
      if (k >= 0 && !beside(body, i) && replaced.get(k) == null) {
        if (depth >= 40) {
          throw new Fault(5, line);
        }
        replaced.set(k, replace(arguments.get(k), line, depth + 1));
      }
    }
    boolean paste = false;
    for (int i = 0; i < n; i++) {
      Piece p = body.get(i);
      if (p.spelling.equals("##") && !paste) {
        paste = true;
        continue;
      }
      List<Piece> part = new ArrayList<>();
      int k = macro.parameter(p.spelling);
      if (strings[i] != null) {
        part.add(new Piece(strings[i], p.spaced, Set.of(), line));
        i++;
      } else if (k >= 0) {
        List<Piece> put = beside(body, i) ? arguments.get(k) : replaced.get(k);
        for (int j = 0; j < put.size(); j++) {
          Piece q = put.get(j);
          part.add(new Piece(q.spelling, j == 0 ? p.spaced : q.spaced, q.hidden, line));
        }
      } else {
        part.add(new Piece(p.spelling, p.spaced, Set.of(), line));
      }
      parts.add(part);
      pastes.add(paste);
      paste = false;
    }
    return paste(parts, pastes, line);
  }

  private static boolean beside(List<Piece> body, int i) {
    return i > 0 && body.get(i - 1).spelling.equals("##") || i + 1 < body.size() && body.get(i + 1).spelling.equals("##");
  }

  private List<Piece> paste(List<List<Piece>> parts, List<Boolean> pastes, int line) {
    List<Piece> row = new ArrayList<>();
    // Whether what a ## has on its left is nothing.
    boolean nothing = true;
    for (int i = 0; i < parts.size(); i++) {
      List<Piece> part = parts.get(i);
      if (pastes.get(i)) {
        if (part.isEmpty()) {
          continue;
        }
        if (!nothing) {
          Piece left = row.remove(row.size() - 1);
          Piece right = part.get(0);
          String both = left.spelling + right.spelling;
          if (end(both, 0) != both.length()) {
            throw new Fault(1, line);
          }
          count(eighths(both), line);
          row.add(new Piece(both, left.spaced, common(left.hidden, right.hidden), line));
          row.addAll(part.subList(1, part.size()));
          continue;
        }
      }
      row.addAll(part);
      nothing = part.isEmpty();
    }
    return row;
  }

  // Making up.

  private static final String[] OBJECTS = {"A", "B", "C", "D"};
  private static final String[] CALLED = {"f", "g", "h", "k"};

  private String word() {
    switch (random(12)) {
      case 0: case 1: case 2: return OBJECTS[random(4)];
      case 3: case 4: return CALLED[random(4)];
      case 5: return "x";
      case 6: return "AB";
      case 7: return "" + random(20);
      case 8: return random(2) == 0 ? "\"s\"" : "'c'";
      default: return SIGNS[random(SIGNS.length - 6)];
    }
  }

  private String blank() {
    return random(3) == 0 ? "" : " ";
  }

  private void define(StringBuilder text, String name, boolean called) {
    Macro macro = new Macro();
    macro.called = called;
    StringBuilder s = new StringBuilder(name);
    if (called) {
      int count = random(3);
      macro.rest = random(4) == 0;
      s.append("(");
      for (int i = 0; i < count; i++) {
        macro.parameters.add("pq".substring(i, i + 1));
        s.append(i > 0 ? "," : "").append(macro.parameters.get(i));
      }
      s.append(macro.rest ? count > 0 ? ",...)" : "...)" : ")");
    }
    int parts = random(6);
    StringBuilder body = new StringBuilder();
    for (int i = 0; i < parts; i++) {
      body.append(blank()).append(part(macro, i == 0 || i == parts - 1));
    }
    String cutApart = body.toString();
    List<Piece> list = cut(cutApart, 0);
    if (!fits(macro, list)) {
      define(text, name, called);
      return;
    }
    macro.body = list;
    macros.put(name, macro);
    text.append("#define ").append(s).append(' ').append(cutApart).append('\n');
    pieces += 1 + cut(s + " " + cutApart, 0).size();
  }

  private static boolean fits(Macro macro, List<Piece> body) {
    if (!body.isEmpty() && (body.get(0).spelling.equals("##") || body.get(body.size() - 1).spelling.equals("##"))) {
      return false;
    }
    for (int i = 0; i < body.size(); i++) {
      if (macro.called && body.get(i).spelling.equals("#") && (i + 1 == body.size() || macro.parameter(body.get(i + 1).spelling) < 0)) {
        return false;
      }
    }
    return true;
  }

  private String part(Macro macro, boolean outside) {
    int count = macro.parameters.size() + (macro.rest ? 1 : 0);
    if (count > 0 && random(2) == 0) {
      int i = random(count);
      String p = i < macro.parameters.size() ? macro.parameters.get(i) : "__VA_ARGS__";
      return random(4) == 0 ? "#" + blank() + p : p;
    }
    switch (random(9)) {
      case 0: case 1: return outside ? word() : "##";
      case 2: return CALLED[random(4)] + "(" + word() + ")";
      case 3: return CALLED[random(4)] + "(" + word() + ", " + word() + ")";
      case 4: return CALLED[random(4)] + "(";
      case 5: return random(2) == 0 ? ")" : ",";
      default: return word();
    }
  }

  private void row(StringBuilder s, int depth) {
    int count = 1 + random(4);
    for (int i = 0; i < count; i++) {
      int kind = random(8);
      if (kind < 3 && depth < 4) {
        s.append(blank()).append(CALLED[random(4)]).append(blank()).append("(");
        int arguments = random(3);
        for (int a = 0; a <= arguments; a++) {
          s.append(a > 0 ? "," : "");
          if (random(5) != 0) {
            row(s, depth + 1);
          }
        }
        s.append(")");
      } else if (kind == 3 && depth < 4) {
        s.append(blank()).append("(");
        row(s, depth + 1);
        s.append(")");
      } else {
        s.append(" ").append(word());
      }
    }
  }

  private void text() {
    macros.clear();
    pieces = 0;
    StringBuilder text = new StringBuilder();
    for (String name : OBJECTS) {
      define(text, name, false);
    }
    for (String name : CALLED) {
      define(text, name, true);
    }
    for (String line : new String[] {"S(...) #__VA_ARGS__", "X(...) S(__VA_ARGS__)"}) {
      Macro macro = new Macro();
      macro.called = true;
      macro.rest = true;
      macro.body = cut(line.substring(6), 0);
      macros.put(line.substring(0, 1), macro);
      text.append("#define ").append(line).append('\n');
      pieces += 1 + cut(line, 0).size();
    }
    int before = (int) text.chars().filter(c -> c == '\n').count();
    List<Piece> group = new ArrayList<>();
    StringBuilder s = new StringBuilder();
    row(s, 0);
    String[] lines = {"int main(void) {", "puts(", "X(" + s + ")", "); }"};
    for (int i = 0; i < lines.length; i++) {
      for (Piece p : cut(lines[i], before + i + 1)) {
        group.add(new Piece(p.spelling, p.spaced || group.size() > 0 && group.get(group.size() - 1).line < p.line, p.hidden, p.line));
      }
      text.append(lines[i]).append('\n');
    }
    pieces += group.size();
    replaceAndCompare(text.toString(), group);
  }

  private void replaceAndCompare(String text, List<Piece> group) {
    int code = 0;
    int line = 0;
    List<Piece> out = List.of();
    try {
      out = replace(group, 0, 0);
    } catch (Fault fault) {
      code = fault.code;
      line = fault.line;
    }
    compare(text, code, line, out);
  }

  /**
   * Very many pieces that hide very many names: rows of macros in one another, each piece of which hides others than
   * the next, go through calls whose names and brackets hide others again.
   */
  private void wideText() {
    macros.clear();
    pieces = 0;
    StringBuilder text = new StringBuilder();
    int chain = random(2) == 0 ? 120 + random(80) : 20 + random(100);
    int wide = random(2) == 0 ? 30 + random(12) : 4 + random(30);
    int deep = random(2) == 0 ? wide : 4 + random(wide);
    String most = "N" + chain;
    for (int i = 0; i < chain; i++) {
      line(text, "N" + i, "", "N" + (i + 1));
      line(text, "E" + i, "n", i == chain - 1 ? "K ## n" : "E" + (i + 1) + "(n)");
    }
    line(text, most, "", row("P", wide));
    line(text, "R", "", row("Q", deep));
    for (int i = 0; i < wide; i++) {
      line(text, "P" + i, "", random(5) == 0 ? "R f" : "R");
    }
    for (int i = 0; i < deep; i++) {
      line(text, "Q" + i, "", random(9) == 0 ? "P" + random(wide) : random(5) == 0 ? "x, f" : "x");
    }
    line(text, "K1", "", "F");
    line(text, "K2", "", ")");
    line(text, "K3", "", "f");
    line(text, "H", "a,b,c", "a ( b c");
    line(text, "F", "...", random(2) == 0 ? "G(__VA_ARGS__)" : "f (N1) G(E0(3)(N" + random(chain) + "))");
    line(text, "G", "...", random(3) == 0 ? "" : random(2) == 0 ? "f(__VA_ARGS__)" : "f __VA_ARGS__ " + most);
    line(text, "f", "...", random(2) == 0 ? "g( __VA_ARGS__ )" : "E1(2) __VA_ARGS__");
    line(text, "z", "", "z");
    line(text, "S", "...", "#__VA_ARGS__");
    line(text, "X", "...", "S(__VA_ARGS__)");
    int before = (int) text.chars().filter(c -> c == '\n').count();
    int from = random(3) == 0 ? random(chain) : 0;
    String both = "H(E" + from + "(1),N" + random(chain - from) + ",E" + from + "(2))";
    String row = random(3) > 0 ? both + " z N1" : "X(f(" + most + ") " + both + ")";
    String[] lines = {"int main(void) {", "puts(", row, "); }"};
    List<Piece> group = new ArrayList<>();
    for (int i = 0; i < lines.length; i++) {
      for (Piece p : cut(lines[i], before + i + 1)) {
        boolean first = group.isEmpty() || group.get(group.size() - 1).line < p.line;
        group.add(new Piece(p.spelling, p.spaced || first, p.hidden, p.line));
      }
      text.append(lines[i]).append('\n');
    }
    pieces += group.size();
    replaceAndCompare(text.toString(), group);
  }

  private static String row(String letter, int count) {
    StringBuilder s = new StringBuilder();
    for (int i = 0; i < count; i++) {
      s.append(i > 0 ? " " : "").append(letter).append(i);
    }
    return s.toString();
  }

  private void line(StringBuilder text, String name, String parameters, String body) {
    Macro macro = new Macro();
    macro.called = !parameters.isEmpty();
    macro.rest = parameters.equals("...");
    for (String p : parameters.split(",")) {
      if (macro.called && !macro.rest) {
        macro.parameters.add(p);
      }
    }
    macro.body = cut(body, 0);
    macros.put(name, macro);
    String line = name + (macro.called ? "(" + parameters + ")" : "") + " " + body;
    text.append("#define ").append(line).append('\n');
    pieces += 1 + cut(line, 0).size();
  }

  private void compare(String text, int code, int line, List<Piece> out) {
    Bench b = new Bench().source(text);
    int got = b.x.compile();
    if (code != 0) {
      Bench.due("fault of " + text, got, code);
      Bench.due("line of " + text, b.x.faultLine(), line);
    } else {
      Bench.due("no fault 1 of " + text, got == 1 || got == 5 ? got : 0, 0);
    }
    Bench.due("pieces of " + text, b.x.pieces(), pieces);
    if (code == 0 && got == 0) {
      Bench.due("pieces that came out of " + text, b.x.about(3), out.size());
      b.x.run(1000);
      String string = out.get(out.size() - 4).spelling;
      Bench.due("row of " + text, b.wrote(2), string.substring(1, string.length() - 1).replaceAll("\\\\(.)", "$1") + "\n");
    }
  }
}
