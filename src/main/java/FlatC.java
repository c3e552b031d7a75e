import java.util.Arrays;

/**
 * A compiler for the language C as the document tells it, with its preprocessor, library and machine.
 * The parts stand in the order in which a text goes through them.
 */
public final class FlatC {
  private static final int TRAY = 65540;
  private static final int LONGEST_TEXT = 65535;
  private static final int SEATS = 16;
  private static final int COMPILINGS = 64;
  private static final int MOST_FUEL = 100000;
  /** Far above what any loop can need for which the document tells no bound. */
  private static final int MANY = 1000000;

  // The types that are no others' makings; their numbers are also the kinds of the machine's values.
  private static final int VOID = 0;
  private static final int CHAR = 1;
  private static final int UCHAR = 2;
  private static final int SHORT = 3;
  private static final int USHORT = 4;
  private static final int INT = 5;
  private static final int UINT = 6;
  private static final int LLONG = 7;
  private static final int ULLONG = 8;
  private static final int FLOAT = 9;
  private static final int DOUBLE = 10;

  // Signs and words by the numbers of their spellings: those of Pieces are spelled in this order.
  private static final int OPEN_INDEX = 0;
  private static final int CLOSE_INDEX = 1;
  private static final int OPEN = 2;
  private static final int CLOSE = 3;
  private static final int OPEN_BRACE = 4;
  private static final int CLOSE_BRACE = 5;
  private static final int DOT = 6;
  private static final int ARROW = 7;
  private static final int INCREASE = 8;
  private static final int DECREASE = 9;
  private static final int AMPERSAND = 10;
  private static final int STAR = 11;
  private static final int PLUS = 12;
  private static final int MINUS = 13;
  private static final int TILDE = 14;
  private static final int NOT = 15;
  private static final int SLASH = 16;
  private static final int PERCENT = 17;
  private static final int SHIFT_LEFT = 18;
  private static final int SHIFT_RIGHT = 19;
  private static final int LESS = 20;
  private static final int GREATER = 21;
  private static final int LESS_EQUAL = 22;
  private static final int GREATER_EQUAL = 23;
  private static final int EQUAL = 24;
  private static final int UNEQUAL = 25;
  private static final int CARET = 26;
  private static final int BAR = 27;
  private static final int AND_AND = 28;
  private static final int OR_OR = 29;
  private static final int QUESTION = 30;
  private static final int COLON = 31;
  private static final int SEMICOLON = 32;
  private static final int ELLIPSIS = 33;
  private static final int ASSIGN = 34;
  private static final int STAR_ASSIGN = 35;
  private static final int SLASH_ASSIGN = 36;
  private static final int PERCENT_ASSIGN = 37;
  private static final int PLUS_ASSIGN = 38;
  private static final int MINUS_ASSIGN = 39;
  private static final int LEFT_ASSIGN = 40;
  private static final int RIGHT_ASSIGN = 41;
  private static final int AND_ASSIGN = 42;
  private static final int XOR_ASSIGN = 43;
  private static final int OR_ASSIGN = 44;
  private static final int COMMA = 45;
  private static final int HASH = 46;
  private static final int PASTE = 47;
  private static final int K_AUTO = 48;
  private static final int K_BREAK = 49;
  private static final int K_CASE = 50;
  private static final int K_CHAR = 51;
  private static final int K_CONST = 52;
  private static final int K_CONTINUE = 53;
  private static final int K_DEFAULT = 54;
  private static final int K_DO = 55;
  private static final int K_DOUBLE = 56;
  private static final int K_ELSE = 57;
  private static final int K_ENUM = 58;
  private static final int K_EXTERN = 59;
  private static final int K_FLOAT = 60;
  private static final int K_FOR = 61;
  private static final int K_GOTO = 62;
  private static final int K_IF = 63;
  private static final int K_INLINE = 64;
  private static final int K_INT = 65;
  private static final int K_LONG = 66;
  private static final int K_REGISTER = 67;
  private static final int K_RESTRICT = 68;
  private static final int K_RETURN = 69;
  private static final int K_SHORT = 70;
  private static final int K_SIGNED = 71;
  private static final int K_SIZEOF = 72;
  private static final int K_STATIC = 73;
  private static final int K_STRUCT = 74;
  private static final int K_SWITCH = 75;
  private static final int K_TYPEDEF = 76;
  private static final int K_UNION = 77;
  private static final int K_UNSIGNED = 78;
  private static final int K_VOID = 79;
  private static final int K_VOLATILE = 80;
  private static final int K_WHILE = 81;
  private static final int K_VA_ARG = 82;
  private static final int W_DEFINE = 83;
  private static final int W_UNDEF = 84;
  private static final int W_INCLUDE = 85;
  private static final int W_IFDEF = 86;
  private static final int W_IFNDEF = 87;
  private static final int W_ELIF = 88;
  private static final int W_ENDIF = 89;
  private static final int W_ERROR = 90;
  private static final int W_PRAGMA = 91;
  private static final int W_DEFINED = 92;
  private static final int W_LINE = 93;
  private static final int W_FILE = 94;
  private static final int W_ARGUMENTS = 95;
  private static final int W_SIZE_T = 96;
  private static final int W_FILE_TYPE = 97;
  private static final int W_VA_LIST = 98;
  private static final int W_MAIN = 99;
  private static final int W_ZERO = 100;
  private static final int W_ONE = 101;
  private static final int W_HEADERS = 102;
  private static final int W_LIBRARY = 109;

  // What the parser tells the checker, in the order of the text. The number behind it (what it is, if there is one)
  // stands in the upper bits: T a token, N a number.
  private static final int E_END = 0;
  private static final int E_DECLARATION = 1;        // T; specifiers, declarators; E_DECLARATION_END
  private static final int E_DECLARATION_END = 2;
  private static final int E_SPECIFIERS = 3;         // T; words, names, tags; E_SPECIFIERS_END
  private static final int E_SPECIFIERS_TAGGED = 4;  // T; the same, and there is a struct, union or enum
  private static final int E_WORD = 5;               // T
  private static final int E_TYPEDEF_NAME = 6;       // T
  private static final int E_SPECIFIERS_END = 7;
  private static final int E_TAG = 8;                // T: the word before the tag
  private static final int E_TAG_ALONE = 9;          // T; with ; and no other word
  private static final int E_STRUCT = 10;            // T: the word; members; E_STRUCT_END
  private static final int E_MEMBER = 11;            // specifiers, fields; E_MEMBER_END
  private static final int E_FIELD = 12;             // a declarator, E_WIDTH and an expression, or both
  private static final int E_WIDTH = 13;
  private static final int E_MEMBER_END = 14;
  private static final int E_STRUCT_END = 15;
  private static final int E_ENUM = 16;              // T: the word; enumerators; E_ENUM_END
  private static final int E_ENUMERATOR = 17;        // T; perhaps E_ENUM_VALUE and an expression
  private static final int E_ENUM_VALUE = 18;
  private static final int E_ENUM_END = 19;
  private static final int E_DECLARATOR = 20;        // name, arrays, parameters, pointers; E_DECLARATOR_END
  private static final int E_NAME = 21;              // T
  private static final int E_ARRAY = 22;             // an expression
  private static final int E_ARRAY_OPEN = 23;        // without a length
  private static final int E_PARAMETERS = 24;        // N: 1 those of a definition; E_PARAMETERS_END
  private static final int E_PARAMETER = 25;         // specifiers, perhaps a declarator
  private static final int E_PARAMETERS_END = 26;    // N: 1 with ...
  private static final int E_POINTERS = 27;          // N: how many
  private static final int E_DECLARATOR_END = 28;
  private static final int E_DECLARE = 29;           // N: 1 an initialiser follows, 2 a body
  private static final int E_FUNCTION = 30;          // N: 1 parameters stand behind the name; items; E_FUNCTION_END
  private static final int E_FUNCTION_END = 31;      // T: the }
  private static final int E_PART = 32;              // an expression
  private static final int E_BRACE = 33;             // parts, designators before them; E_BRACE_END
  private static final int E_BRACE_END = 34;
  private static final int E_ELEMENT = 35;           // an expression
  private static final int E_MEMBER_NAME = 36;       // T
  private static final int E_DESIGNATED = 37;
  private static final int E_TYPE_NAME_END = 38;
  private static final int E_BLOCK = 40;
  private static final int E_BLOCK_END = 41;
  private static final int E_EXPRESSION = 42;        // T; all statements have their first token
  private static final int E_EMPTY = 43;
  private static final int E_LABEL = 44;
  private static final int E_CASE = 45;
  private static final int E_CASE_END = 46;
  private static final int E_DEFAULT = 47;
  private static final int E_IF = 48;
  private static final int E_ELSE = 49;
  private static final int E_IF_END = 50;
  private static final int E_SWITCH = 51;
  private static final int E_WHILE = 52;
  private static final int E_DO = 53;
  private static final int E_DO_WHILE = 54;
  private static final int E_FOR = 55;               // a declaration or an expression; E_FOR_FIRST, expression, ..
  private static final int E_FOR_FIRST = 56;
  private static final int E_FOR_CONDITION = 57;
  private static final int E_FOR_THIRD = 58;
  private static final int E_GOTO = 59;
  private static final int E_CONTINUE = 60;
  private static final int E_BREAK = 61;
  private static final int E_RETURN = 62;
  private static final int E_CONDITION_END = 63;
  // Parts of expressions: those from here on, and no others.
  private static final int E_IDENTIFIER = 64;        // T
  private static final int E_CONSTANT = 65;          // T
  private static final int E_STRING = 66;            // T
  private static final int E_TYPE_NAME = 67;         // specifiers, a declarator; E_TYPE_NAME_END
  private static final int E_SIGN = 68;              // N: a sign with an operand on its left
  private static final int E_BINARY = 69;            // N: the sign, behind its right operand
  private static final int E_COMMA_SIGN = 70;
  private static final int E_COMMA = 71;
  private static final int E_QUESTION = 72;
  private static final int E_COLON = 73;
  private static final int E_CHOICE = 74;
  private static final int E_ASSIGN_SIGN = 75;       // N: the sign
  private static final int E_ASSIGN = 76;            // N: the sign
  private static final int E_PREFIX = 77;            // N: the sign, behind its operand
  private static final int E_POSTFIX = 78;           // N: the sign
  private static final int E_INDEX_SIGN = 79;
  private static final int E_INDEX = 80;
  private static final int E_CALL_SIGN = 81;
  private static final int E_ARGUMENT = 82;
  private static final int E_CALL = 83;
  private static final int E_DOT = 84;               // T: the member
  private static final int E_ARROW = 85;             // T: the member
  private static final int E_CAST = 86;
  private static final int E_SIZEOF = 87;            // an operand; E_SIZEOF_END
  private static final int E_SIZEOF_END = 88;
  private static final int E_SIZEOF_TYPE = 89;
  private static final int E_VA_LIST = 90;
  private static final int E_VA_ARG = 91;

  private final byte[] tray = new byte[TRAY];
  private int trayLength;
  private byte[] source = new byte[0];
  private final byte[][] headers = new byte[SEATS][0];
  private final byte[][] headerNames = new byte[SEATS][0];
  private int headerCount;
  private byte[] input = new byte[0];
  private final byte[][] arguments = new byte[SEATS][0];
  private int argumentCount;
  private final Pieces pieces = new Pieces();
  private final Preprocessor preprocessor = new Preprocessor(pieces);
  private final Parser parser = new Parser(pieces);
  private final Checker checker = new Checker(pieces, parser);
  private final Machine machine = new Machine();
  private Program program = new Program();
  private boolean compiled;
  private boolean ran;
  private int compilings;
  private int faultPlace;
  private int faultFile = -1;

  public FlatC() {
  }

  public int feed(int a, int b, int c, int d, int e) {
    if (trayLength + 20 > TRAY) {
      return -1;
    }
    putInt(a);
    putInt(b);
    putInt(c);
    putInt(d);
    putInt(e);
    return trayLength;
  }

  private void putInt(int value) {
    for (int shift = 24; shift >= 0; shift -= 8) {
      tray[trayLength++] = (byte) (value >> shift);
    }
  }

  public int end(int n) {
    if (n < 0 || n > trayLength) {
      return -1;
    }
    trayLength = n;
    return n;
  }

  public int take(int what) {
    int length = trayLength;
    if (what < 0 || what > 3 || length > LONGEST_TEXT || !taken(what)) {
      return -1;
    }
    trayLength = 0;
    return length;
  }

  private boolean taken(int what) {
    if (what == 1) {
      return takenAsHeader();
    }
    if (what == 3 && argumentCount >= SEATS) {
      return false;
    }
    byte[] text = Arrays.copyOf(tray, trayLength);
    if (what == 0) {
      source = text;
    } else if (what == 2) {
      input = text;
    } else {
      arguments[argumentCount++] = text;
    }
    return true;
  }

  private boolean takenAsHeader() {
    int name = 0;
    while (name < trayLength && tray[name] != 10) {
      name++;
    }
    int seat = seatOf(name);
    if (seat >= SEATS) {
      return false;
    }
    if (seat == headerCount) {
      headerCount++;
      headerNames[seat] = Arrays.copyOf(tray, name);
    }
    headers[seat] = Arrays.copyOfRange(tray, Math.min(name + 1, trayLength), trayLength);
    return true;
  }

  /** The header whose name the tray's first bytes are; the first free seat if there is none. */
  private int seatOf(int nameLength) {
    for (int seat = 0; seat < headerCount; seat++) {
      if (sameBytes(headerNames[seat], tray, 0, nameLength)) {
        return seat;
      }
    }
    return headerCount;
  }

  public void clear() {
    forgetHeaders();
    forgetInput();
    trayLength = 0;
  }

  private void forgetHeaders() {
    source = new byte[0];
    headerCount = 0;
  }

  private void forgetInput() {
    input = new byte[0];
    argumentCount = 0;
  }

  public int compile() {
    if (compilings >= COMPILINGS) {
      faultPlace = 0;
      faultFile = -1;
      return 5;
    }
    compilings++;
    pieces.forgetFault();
    Program made = translated();
    int fault = pieces.fault;
    faultPlace = fault == 0 ? 0 : lineOf(pieces.faultPlace);
    faultFile = fault == 0 ? -1 : fileOf(pieces.faultPlace);
    if (fault == 0) {
      program = made;
      compiled = true;
    }
    forgetHeaders();
    return fault;
  }

  /** The four phases; each is left out if one before it found a fault. */
  private Program translated() {
    Program made = new Program();
    preprocessor.preprocess(source, headers, headerNames, headerCount);
    if (pieces.fault == 0) {
      parser.readTokens(preprocessor.result, preprocessor.resultLength);
    }
    if (pieces.fault == 0) {
      parser.parseUnit();
    }
    if (pieces.fault == 0) {
      made.facts[Program.PIECES] = preprocessor.resultLength;
      checker.checkUnit(made);
    }
    return made;
  }

  public int faultLine() {
    return faultPlace;
  }

  public int faultText() {
    return faultFile;
  }

  public int run(int fuel) {
    if (!compiled) {
      return -1;
    }
    if (fuel < 0 || fuel > MOST_FUEL) {
      return -2;
    }
    machine.perform(program, fuel, input, arguments, argumentCount);
    forgetInput();
    ran = true;
    return machine.outcome;
  }

  public int exitCode() {
    return ran && machine.outcome == 0 ? machine.exitValue : -1;
  }

  public int trapLine() {
    return ran ? machine.lineOfTrap : 0;
  }

  public int steps() {
    return ran ? machine.stepsMade : 0;
  }

  public int written(int stream) {
    return stream == 2 || stream == 3 ? machine.library.writtenTo(stream) : -1;
  }

  public int out(int stream, int i) {
    return stream == 2 || stream == 3 ? machine.library.byteWritten(stream, i) : -1;
  }

  public int memory(int address) {
    int word = 0;
    for (int i = 0; i < 4; i++) {
      word |= machine.byteLeft((long) address + i) << 8 * i;
    }
    return word;
  }

  public int heapEnd() {
    return ran ? machine.heapEnds : 0;
  }

  public int lowest() {
    return ran ? machine.lowestStack : 0;
  }

  public int strays() {
    return ran ? machine.strayed : 0;
  }

  public int pieces() {
    return pieces.room;
  }

  public int about(int what) {
    return compiled && what >= 0 && what <= 4 ? program.facts[what] : -1;
  }

  /** A place is a line and the text that has it: 0 for the source, k + 1 for header k. */
  private static int place(int file, int line) {
    return file << 17 | line;
  }

  private static int lineOf(int place) {
    return place & 131071;
  }

  private static int fileOf(int place) {
    return place >> 17;
  }

  private static boolean sameBytes(byte[] a, byte[] b, int from, int to) {
    if (a.length != to - from) {
      return false;
    }
    for (int i = 0; i < a.length; i++) {
      if (a[i] != b[from + i]) {
        return false;
      }
    }
    return true;
  }

  /** The row itself, or a longer one with the same beginning, so that it has an element at the index. */
  private static int[] grown(int[] row, int index) {
    return index < row.length ? row : Arrays.copyOf(row, Math.max(index + 1, 2 * row.length));
  }

  private static long[] grown(long[] row, int index) {
    return index < row.length ? row : Arrays.copyOf(row, Math.max(index + 1, 2 * row.length));
  }

  private static double[] grown(double[] row, int index) {
    return index < row.length ? row : Arrays.copyOf(row, Math.max(index + 1, 2 * row.length));
  }

  private static byte[] grown(byte[] row, int index) {
    return index < row.length ? row : Arrays.copyOf(row, Math.max(index + 1, 2 * row.length));
  }

  /** The spellings, the pieces made of them, the room that they take, and the first fault. */
  private static final class Pieces {
    private static final int MOST = 16000;
    private static final int ARENA = 24512;
    private static final int HASHES = 2048;
    // What a piece can be.
    private static final int BAD = 0;
    private static final int NAME = 1;
    private static final int NUMBER = 2;
    private static final int CHARACTER = 3;
    private static final int STRING = 4;
    private static final int SIGN = 5;
    // Signs and words are spelled first of all and in this order, so that their numbers are known.
    private static final String BRACKETS_AND_OPERATORS =
        "[ ] ( ) { } . -> ++ -- & * + - ~ ! / % << >> < > <= >= == != ^ | && || ? : ; ...";
    private static final String ASSIGNMENTS_AND_THE_REST = "= *= /= %= += -= <<= >>= &= ^= |= , # ##";
    private static final int SIGNS = 48;
    private static final String KEYWORDS_TO_GOTO =
        "auto break case char const continue default do double else enum extern float for goto";
    private static final String KEYWORDS_FROM_IF =
        "if inline int long register restrict return short signed sizeof static struct switch";
    private static final String KEYWORDS_FROM_TYPEDEF = "typedef union unsigned void volatile while va_arg";
    private static final String DIRECTIVES =
        "define undef include ifdef ifndef elif endif error pragma defined __LINE__ __FILE__ __VA_ARGS__";
    private static final String STANDARD_NAMES = "size_t FILE va_list main 0 1";
    private static final String STANDARD_HEADERS =
        "stdio.h stdlib.h string.h ctype.h stdarg.h stddef.h limits.h";

    private byte[] pool = new byte[8192];
    private int[] start = new int[1024];
    private int[] kind = new int[1024];
    private int[] next = new int[1024];
    private final int[] heads = new int[HASHES];
    private int count;
    private final int[] text = new int[ARENA];
    private final int[] place = new int[ARENA];
    private final int[] hidden = new int[ARENA];
    private final boolean[] spaced = new boolean[ARENA];
    private int made;
    private int room;
    private int fault;
    private int faultPlace;
    private int cutKind;
    private long value;
    private int valueType;
    private double real;

    private Pieces() {
      spellAll(BRACKETS_AND_OPERATORS, SIGN);
      spellAll(ASSIGNMENTS_AND_THE_REST, SIGN);
      spellAll(KEYWORDS_TO_GOTO, NAME);
      spellAll(KEYWORDS_FROM_IF, NAME);
      spellAll(KEYWORDS_FROM_TYPEDEF, NAME);
      spellAll(DIRECTIVES, NAME);
      spellAll(STANDARD_NAMES, NAME);
      spellAll(STANDARD_HEADERS, BAD);
      kind[W_ZERO] = NUMBER;
      kind[W_ONE] = NUMBER;
    }

    private void forgetFault() {
      fault = 0;
      faultPlace = 0;
    }

    /** Only the first fault is told. */
    private void fail(int code, int where) {
      if (fault == 0) {
        fault = code;
        faultPlace = where;
      }
    }

    /** Counts what is to be made; false (and a fault) if there is no room for it. */
    private boolean counted(long pieces, int where) {
      if (pieces > MOST - room) {
        fail(5, where);
        return false;
      }
      room += (int) pieces;
      return true;
    }

    /** A new piece; its number, or -1 if there is no place for one more. */
    private int make(int spelling, int where, boolean isSpaced, int hides) {
      if (made >= ARENA) {
        fail(5, where);
        return -1;
      }
      text[made] = spelling;
      place[made] = where;
      spaced[made] = isSpaced;
      hidden[made] = hides;
      return made++;
    }

    private static byte[] bytesOf(String s) {
      byte[] bytes = new byte[s.length()];
      for (int i = 0; i < bytes.length; i++) {
        bytes[i] = (byte) s.charAt(i);
      }
      return bytes;
    }

    /** Spells the words of a list with blanks between. */
    private void spellAll(String list, int as) {
      byte[] bytes = bytesOf(list);
      int from = 0;
      for (int i = 0; i <= bytes.length; i++) {
        if (i == bytes.length || bytes[i] == ' ') {
          spell(bytes, from, i, as);
          from = i + 1;
        }
      }
    }

    private static int hash(byte[] b, int from, int to) {
      int h = to - from;
      for (int i = from; i < to; i++) {
        h = h * 31 + b[i];
      }
      return (h ^ h >>> 15) & HASHES - 1;
    }

    private int lengthOf(int spelling) {
      return start[spelling + 1] - start[spelling];
    }

    /** The number of a spelling; -1 if there is none like it. */
    private int find(byte[] b, int from, int to) {
      int id = heads[hash(b, from, to)] - 1;
      for (int n = 0; n < count && id >= 0; n++) {
        if (isSpelled(id, b, from, to)) {
          return id;
        }
        id = next[id];
      }
      return -1;
    }

    private boolean isSpelled(int id, byte[] b, int from, int to) {
      if (lengthOf(id) != to - from) {
        return false;
      }
      for (int i = start[id], j = from; j < to; i++, j++) {
        if (pool[i] != b[j]) {
          return false;
        }
      }
      return true;
    }

    /** The number of a spelling, which is a new one if there is none like it yet. */
    private int spell(byte[] b, int from, int to, int as) {
      int id = find(b, from, to);
      if (id >= 0) {
        return id;
      }
      id = count++;
      start = grown(start, id + 1);
      kind = grown(kind, id);
      next = grown(next, id);
      int length = to - from;
      pool = grown(pool, start[id] + length);
      System.arraycopy(b, from, pool, start[id], length);
      start[id + 1] = start[id] + length;
      kind[id] = as;
      int h = hash(b, from, to);
      next[id] = heads[h] - 1;
      heads[h] = id + 1;
      return id;
    }

    private static boolean isDigit(int c) {
      return c >= '0' && c <= '9';
    }

    private static boolean isLetter(int c) {
      return c >= 'a' && c <= 'z' || c >= 'A' && c <= 'Z' || c == '_';
    }

    /** Where the piece ends that begins at a byte that is no blank; cutKind tells what it is. */
    private int cut(byte[] b, int from, int end) {
      int c = b[from];
      if (isLetter(c)) {
        cutKind = NAME;
        return nameEnd(b, from, end);
      }
      if (isDigit(c) || c == '.' && from + 1 < end && isDigit(b[from + 1])) {
        cutKind = NUMBER;
        return numberEnd(b, from, end);
      }
      return c == '\'' || c == '"' ? constantEnd(b, from, end) : signEnd(b, from, end);
    }

    private static int nameEnd(byte[] b, int from, int end) {
      int i = from;
      while (i < end && (isLetter(b[i]) || isDigit(b[i]))) {
        i++;
      }
      return i;
    }

    private static int numberEnd(byte[] b, int from, int end) {
      int i = from;
      while (i < end && (isLetter(b[i]) || isDigit(b[i]) || b[i] == '.')) {
        int c = b[i] | 32;
        boolean signed = i + 1 < end && (b[i + 1] == '+' || b[i + 1] == '-');
        i += signed && (c == 'e' || c == 'p') ? 2 : 1;
      }
      return i;
    }

    private int constantEnd(byte[] b, int from, int end) {
      int quote = b[from];
      cutKind = quote == '"' ? STRING : CHARACTER;
      for (int i = from + 1; i < end && b[i] != 10; i++) {
        if (b[i] == quote) {
          return i + 1;
        }
        if (b[i] == '\\' && i + 1 < end && b[i + 1] != 10) {
          i++;
        }
      }
      cutKind = BAD;
      return from;
    }

    private int signEnd(byte[] b, int from, int end) {
      for (int length = 3; length > 0; length--) {
        if (from + length <= end) {
          int id = find(b, from, from + length);
          if (id >= 0 && id < SIGNS) {
            cutKind = SIGN;
            return from + length;
          }
        }
      }
      cutKind = BAD;
      return from;
    }

    /** What a NUMBER is: 1 an integer, 2 a floating number (in value, real and valueType), 0 neither. */
    private int numberWorth(int id) {
      int from = start[id];
      int to = start[id + 1];
      boolean hexadecimal = to - from > 1 && pool[from] == '0' && (pool[from + 1] | 32) == 'x';
      boolean floating = false;
      for (int i = from; i < to; i++) {
        int c = pool[i] | 32;
        floating |= pool[i] == '.' || c == (hexadecimal ? 'p' : 'e');
      }
      if (floating) {
        return floatingWorth(hexadecimal ? from + 2 : from, to, hexadecimal) ? 2 : 0;
      }
      return integerWorth(from, to, hexadecimal) ? 1 : 0;
    }

    private static int digitOf(int c) {
      if (isDigit(c)) {
        return c - '0';
      }
      int small = c | 32;
      return small >= 'a' && small <= 'z' && isLetter(c) ? small - 'a' + 10 : 99;
    }

    private boolean integerWorth(int from, int to, boolean hexadecimal) {
      int base = hexadecimal ? 16 : pool[from] == '0' ? 8 : 10;
      int i = hexadecimal ? from + 2 : from;
      int first = i;
      boolean over = false;
      value = 0;
      for (; i < to && digitOf(pool[i]) < base; i++) {
        long most = Long.divideUnsigned(-1L - digitOf(pool[i]), base);
        over |= Long.compareUnsigned(value, most) > 0;
        value = value * base + digitOf(pool[i]);
      }
      return i > first && !over && suffixed(i, to, base == 10);
    }

    /** Reads the letters behind an integer and sets its type; false if they or it can't be. */
    private boolean suffixed(int from, int to, boolean decimal) {
      boolean unsigned = false;
      int longs = 0;
      for (int i = from; i < to; i++) {
        int c = pool[i];
        if ((c | 32) == 'u' && !unsigned) {
          unsigned = true;
        } else if ((c | 32) == 'l' && longs == 0) {
          longs = i + 1 < to && pool[i + 1] == c ? 2 : 1;
          i += longs - 1;
        } else {
          return false;
        }
      }
      boolean narrow = longs < 2;
      boolean inUint = value >= 0 && value <= 4294967295L;
      if (!unsigned && narrow && value >= 0 && value <= 2147483647) {
        valueType = INT;
      } else if (narrow && inUint && (unsigned || !decimal)) {
        valueType = UINT;
      } else if (!unsigned && value >= 0) {
        valueType = LLONG;
      } else {
        valueType = ULLONG;
        return unsigned || !decimal;
      }
      return true;
    }

    private boolean floatingWorth(int from, int to, boolean hexadecimal) {
      int base = hexadecimal ? 16 : 10;
      int most = hexadecimal ? 15 : 18;
      int digits = 0;
      int kept = 0;
      long shift = 0;
      boolean point = false;
      value = 0;
      int i = from;
      for (; i < to && (pool[i] == '.' && !point || digitOf(pool[i]) < base); i++) {
        if (pool[i] == '.') {
          point = true;
          continue;
        }
        digits++;
        shift -= point ? 1 : 0;
        if (kept < most) {
          value = value * base + digitOf(pool[i]);
          kept += value > 0 ? 1 : 0;
        } else {
          shift++;
        }
      }
      boolean told = i < to && (pool[i] | 32) == (hexadecimal ? 'p' : 'e');
      if (digits == 0 || !told && hexadecimal) {
        return false;
      }
      return exponentRead(told ? i + 1 : i, to, told, hexadecimal ? 2 : 10, hexadecimal ? 4 * shift : shift);
    }

    private boolean exponentRead(int from, int to, boolean told, int base, long shift) {
      int i = from;
      long exponent = 0;
      if (told) {
        boolean minus = i < to && pool[i] == '-';
        i += minus || i < to && pool[i] == '+' ? 1 : 0;
        int first = i;
        for (; i < to && isDigit(pool[i]); i++) {
          exponent = Math.min(exponent * 10 + pool[i] - '0', 1000000000000L);
        }
        if (i == first) {
          return false;
        }
        exponent = minus ? -exponent : exponent;
      }
      int suffix = i < to ? pool[i] | 32 : 0;
      if (to - i > 1 || to > i && suffix != 'f' && suffix != 'l') {
        return false;
      }
      scale(base, exponent + shift);
      valueType = suffix == 'f' ? FLOAT : DOUBLE;
      real = suffix == 'f' ? (double) (float) real : real;
      return true;
    }

    private void scale(int base, long exponent) {
      real = (double) value;
      long factors = Math.min(Math.abs(exponent), 400);
      for (long n = 0; n < factors; n++) {
        real = exponent > 0 ? real * base : real / base;
      }
    }

    /** Puts the bytes that a CHARACTER or STRING means behind each other; the end, -1 for a bad escape. */
    private int decode(int id, byte[] to, int at) {
      int end = start[id + 1] - 1;
      int n = at;
      for (int i = start[id] + 1; i < end; i++) {
        int c = pool[i];
        if (c == '\\') {
          int length = escapeLength(i + 1, end);
          if (length == 0) {
            return -1;
          }
          c = escapeWorth(i + 1, length);
          i += length;
        }
        to[n++] = (byte) c;
      }
      return n;
    }

    /** How many bytes an escape has behind its \; 0 if it is none. */
    private int escapeLength(int from, int end) {
      if (from >= end) {
        return 0;
      }
      int c = pool[from];
      boolean octal = c >= '0' && c <= '7';
      if (!octal && c != 'x') {
        return simpleEscape(c) < 0 ? 0 : 1;
      }
      int base = octal ? 8 : 16;
      int i = octal ? from : from + 1;
      int most = octal ? from + 3 : from + 3;
      while (i < end && i < most && digitOf(pool[i]) < base) {
        i++;
      }
      return octal || i > from + 1 ? i - from : 0;
    }

    private int escapeWorth(int from, int length) {
      int c = pool[from];
      boolean octal = c >= '0' && c <= '7';
      if (!octal && c != 'x') {
        return simpleEscape(c);
      }
      int worth = 0;
      for (int i = octal ? from : from + 1; i < from + length; i++) {
        worth = worth * (octal ? 8 : 16) + digitOf(pool[i]);
      }
      return worth;
    }

    private static int simpleEscape(int c) {
      switch (c) {
        case 'n': return 10;
        case 't': return 9;
        case 'r': return 13;
        case 'a': return 7;
        case 'b': return 8;
        case 'f': return 12;
        case 'v': return 11;
        case '\\': case '\'': case '"': case '?': return c;
        default: return -1;
      }
    }

    /** The worth of a CHARACTER is in value; false if it is not exactly one byte or escape. */
    private boolean characterWorth(int id) {
      byte[] out = new byte[lengthOf(id)];
      boolean one = decode(id, out, 0) == 1;
      value = one ? out[0] : 0;
      valueType = INT;
      return one;
    }
  }

  /** The macros, and the replacing of their names in a row of pieces. */
  private static final class Replacer {
    private static final int DEEPEST = 40;
    private static final int ROW_LIMIT = Pieces.MOST + 2;
    private static final int MOST_SETS = 200000;
    private static final int SET_HASHES = 1024;
    /** A piece of a row that is none: an argument without pieces beside ##. */
    private static final int NOTHING = -1;
    // What is kept of a macro, and of an argument.
    private static final int STRIDE = 6;
    private static final int M_NAME = 0;
    private static final int M_FLAGS = 1;
    private static final int M_PARAMETERS = 2;
    private static final int M_COUNT = 3;
    private static final int M_BODY = 4;
    private static final int M_END = 5;
    private static final int CALLED = 1;
    private static final int VARIADIC = 2;
    private static final String STANDARD_1 =
        "__STDC__ 1\nNULL ((void*)0)\nEOF (-1)\nINT_MAX 2147483647\nINT_MIN (-2147483647-1)\n";
    private static final String STANDARD_2 =
        "UINT_MAX 4294967295u\nLLONG_MAX 9223372036854775807ll\nCHAR_BIT 8\n";
    private static final String STANDARD_3 =
        "stdin ((FILE*)1)\nstdout ((FILE*)2)\nstderr ((FILE*)3)\n";

    private final Pieces pieces;
    private int[] macroOf = new int[1024];
    private int[] macros = new int[64 * STRIDE];
    private int macroCount;
    private int standardCount;
    private int[] in = new int[1024];
    private int inTop;
    private int[] work = new int[1024];
    private int workTop;
    private int[] cuts = new int[256];
    private int cutTop;
    private final int[] row = new int[3 * ROW_LIMIT];
    private int rowLength;
    private boolean rowOver;
    private byte[] buffer = new byte[256];
    private int[] sets = new int[256];
    private final int[] setHeads = new int[SET_HASHES];
    private int setCount;
    /** The line of the directive whose condition is being replaced; -1 in a group. */
    private int directivePlace;
    private byte[][] fileNames = new byte[0][0];

    private Replacer(Pieces pieces) {
      this.pieces = pieces;
      defineStandard(Pieces.bytesOf(STANDARD_1));
      defineStandard(Pieces.bytesOf(STANDARD_2));
      defineStandard(Pieces.bytesOf(STANDARD_3));
      standardCount = macroCount;
    }

    private void defineStandard(byte[] lines) {
      int from = pieces.made;
      for (int at = 0; at < lines.length; at++) {
        if (lines[at] == 10) {
          addMacro(pieces.text[from], 0, from + 1, 0, from + 1, pieces.made);
          from = pieces.made;
        } else if (lines[at] != ' ') {
          int end = pieces.cut(lines, at, lines.length);
          pieces.make(pieces.spell(lines, at, end, pieces.cutKind), 0, false, 0);
          at = end - 1;
        }
      }
    }

    /** As before the first text: the predefined macros alone. */
    private void beginUnit(byte[][] names) {
      fileNames = names;
      Arrays.fill(macroOf, 0);
      macroCount = standardCount;
      for (int m = 0; m < standardCount; m++) {
        macroOf[macros[m * STRIDE + M_NAME]] = m + 1;
      }
      Arrays.fill(setHeads, 0);
      setCount = 1;
    }

    private void addMacro(int name, int flags, int parameters, int count, int body, int end) {
      int at = macroCount * STRIDE;
      macros = grown(macros, at + STRIDE);
      macros[at + M_NAME] = name;
      macros[at + M_FLAGS] = flags;
      macros[at + M_PARAMETERS] = parameters;
      macros[at + M_COUNT] = count;
      macros[at + M_BODY] = body;
      macros[at + M_END] = end;
      macroCount++;
      macroOf = grown(macroOf, name);
      macroOf[name] = macroCount;
    }

    /** Where the macro of a name is kept; -1 if the name is that of none. */
    private int macroAt(int name) {
      return name < macroOf.length && macroOf[name] > 0 ? (macroOf[name] - 1) * STRIDE : -1;
    }

    private boolean isMacro(int name) {
      return name == W_LINE || name == W_FILE || macroAt(name) >= 0;
    }

    private boolean isName(int piece) {
      return pieces.kind[pieces.text[piece]] == Pieces.NAME;
    }

    private boolean definable(int piece) {
      int name = pieces.text[piece];
      return isName(piece) && (name < W_DEFINED || name > W_ARGUMENTS);
    }

    /** Does a define or undef with these pieces behind it; false if it is wrong. */
    private boolean define(int from, int to) {
      if (from >= to || !definable(from)) {
        return false;
      }
      if (from + 1 >= to || pieces.text[from + 1] != OPEN || pieces.spaced[from + 1]) {
        return bodyFits(0, 0, 0, from + 1, to) && defined(pieces.text[from], 0, from + 1, 0, from + 1, to);
      }
      int first = from + 2;
      int count = 0;
      int at = first;
      boolean rest = false;
      boolean comma = false;
      for (; at < to && !rest && (comma || at == first) && pieces.text[at] != CLOSE; at++) {
        rest = pieces.text[at] == ELLIPSIS;
        if (!rest && !parameterFits(first, count, at)) {
          return false;
        }
        count += rest ? 0 : 1;
        comma = !rest && at + 1 < to && pieces.text[at + 1] == COMMA;
        at += comma ? 1 : 0;
      }
      int flags = CALLED | (rest ? VARIADIC : 0);
      return !comma && at < to && pieces.text[at] == CLOSE && bodyFits(flags, first, count, at + 1, to)
          && defined(pieces.text[from], flags, first, count, at + 1, to);
    }

    private boolean parameterFits(int first, int count, int at) {
      int name = pieces.text[at];
      return isName(at) && name != W_ARGUMENTS && parameterOf(0, first, count, name) < 0;
    }

    private boolean undefine(int from, int to) {
      if (to - from != 1 || !definable(from)) {
        return false;
      }
      int name = pieces.text[from];
      if (name < macroOf.length) {
        macroOf[name] = 0;
      }
      return true;
    }

    /** Which parameter a name is; -1 if none. */
    private int parameterOf(int flags, int first, int count, int name) {
      for (int i = 0; i < count; i++) {
        if (pieces.text[first + 2 * i] == name) {
          return i;
        }
      }
      return (flags & VARIADIC) != 0 && name == W_ARGUMENTS ? count : -1;
    }

    private boolean bodyFits(int flags, int first, int count, int from, int to) {
      if (from < to && (pieces.text[from] == PASTE || pieces.text[to - 1] == PASTE)) {
        return false;
      }
      for (int i = from; i < to && (flags & CALLED) != 0; i++) {
        if (pieces.text[i] == HASH
            && (i + 1 >= to || parameterOf(flags, first, count, pieces.text[i + 1]) < 0)) {
          return false;
        }
      }
      return true;
    }

    private boolean defined(int name, int flags, int first, int count, int body, int end) {
      int old = macroAt(name);
      if (old < 0) {
        addMacro(name, flags, first, count, body, end);
        return true;
      }
      boolean same = macros[old + M_FLAGS] == flags && macros[old + M_COUNT] == count
          && macros[old + M_END] - macros[old + M_BODY] == end - body;
      for (int i = 0; same && i < count; i++) {
        same = pieces.text[first + 2 * i] == pieces.text[macros[old + M_PARAMETERS] + 2 * i];
      }
      for (int i = 0; same && i < end - body; i++) {
        same = pieces.text[body + i] == pieces.text[macros[old + M_BODY] + i];
      }
      return same;
    }

    /** Replaces in a row of pieces; what comes out lies in work[0 .. workTop). */
    private void replaceAll(int[] list, int from, int to, int directive) {
      directivePlace = directive;
      inTop = 0;
      workTop = 0;
      cutTop = 0;
      putIn(list, from, to);
      replace(0, 0, 0);
    }

    private void putIn(int[] list, int from, int to) {
      in = grown(in, inTop + to - from);
      for (int i = to - 1; i >= from; i--) {
        in[inTop++] = list[i];
      }
    }

    private void putWork(int piece) {
      work = grown(work, workTop);
      work[workTop++] = piece;
    }

    private void putCut(int a) {
      cuts = grown(cuts, cutTop);
      cuts[cutTop++] = a;
    }

    private int faultAt(int outermost) {
      return directivePlace >= 0 ? directivePlace : outermost;
    }

    /** Replaces what lies on the input above base; depth is the number of calls in whose arguments it lies. */
    private void replace(int base, int depth, int outermost) {
      for (int n = 0; n < MANY && inTop > base && pieces.fault == 0; n++) {
        int piece = in[--inTop];
        int where = depth == 0 ? pieces.place[piece] : outermost;
        int name = pieces.text[piece];
        int macro = macroAt(name);
        if (name == W_LINE || name == W_FILE) {
          putPlaceOf(piece, where, name == W_LINE);
        } else if (macro < 0 || has(pieces.hidden[piece], name)) {
          putWork(piece);
        } else if ((macros[macro + M_FLAGS] & CALLED) == 0) {
          buildRow(macro, 0, where);
          putRow(piece, with(pieces.hidden[piece], name), where);
        } else if (inTop > base && pieces.text[in[inTop - 1]] == OPEN) {
          call(piece, macro, base, depth, where);
        } else {
          putWork(piece);
        }
      }
    }

    private void putPlaceOf(int piece, int where, boolean line) {
      int spelling = line ? spellLine(lineOf(where)) : spellFile(fileOf(where));
      int count = line ? 1 : eighths(pieces.lengthOf(spelling));
      if (pieces.counted(count, faultAt(where))) {
        int put = pieces.make(spelling, where, pieces.spaced[piece], 0);
        if (put >= 0) {
          putWork(put);
        }
      }
    }

    private int spellLine(int line) {
      int at = 10;
      for (int rest = line; rest > 0 && at > 0; rest /= 10) {
        buffer[--at] = (byte) ('0' + rest % 10);
      }
      return pieces.spell(buffer, at, 10, Pieces.NUMBER);
    }

    private int spellFile(int file) {
      byte[] name = file > 0 && file <= fileNames.length ? fileNames[file - 1] : new byte[0];
      buffer = grown(buffer, 2 * name.length + 2);
      int at = 0;
      buffer[at++] = '"';
      for (int i = 0; i < name.length; i++) {
        if (name[i] == '"' || name[i] == '\\') {
          buffer[at++] = '\\';
        }
        buffer[at++] = name[i];
      }
      buffer[at++] = '"';
      return pieces.spell(buffer, 0, at, Pieces.STRING);
    }

    private static int eighths(int bytes) {
      return (bytes + 7) / 8;
    }

    private int argumentsOf(int macro) {
      return macros[macro + M_COUNT] + ((macros[macro + M_FLAGS] & VARIADIC) != 0 ? 1 : 0);
    }

    private void call(int piece, int macro, int base, int depth, int where) {
      int workBase = workTop;
      int cutBase = cutTop;
      int close = collect(macro, base);
      if (close < 0 || !argumentsFit(macro, cutBase)) {
        pieces.fail(1, faultAt(where));
        return;
      }
      makeStrings(macro, cutBase, where);
      replaceArguments(macro, cutBase, depth, where);
      buildRow(macro, cutBase, where);
      workTop = workBase;
      cutTop = cutBase;
      int both = common(pieces.hidden[piece], pieces.hidden[close]);
      putRow(piece, with(both, pieces.text[piece]), where);
    }

    /** Takes the arguments from the input, four cuts for each; the ) behind them, -1 if there is none. */
    private int collect(int macro, int base) {
      int rest = (macros[macro + M_FLAGS] & VARIADIC) != 0 ? macros[macro + M_COUNT] : MANY;
      int nest = 0;
      int found = 0;
      inTop--;
      openArgument();
      for (int n = 0; n < MANY && inTop > base; n++) {
        int piece = in[--inTop];
        int sign = pieces.text[piece];
        if (sign == CLOSE && nest == 0) {
          cuts[cutTop - 3] = workTop;
          return piece;
        }
        if (sign == COMMA && nest == 0 && found < rest) {
          cuts[cutTop - 3] = workTop;
          openArgument();
          found++;
        } else {
          nest += sign == OPEN ? 1 : sign == CLOSE ? -1 : 0;
          putWork(piece);
        }
      }
      return -1;
    }

    /** An argument's cuts: where it begins and ends as it is, and where it does when it is replaced. */
    private void openArgument() {
      putCut(workTop);
      putCut(workTop);
      putCut(-1);
      putCut(-1);
    }

    private boolean argumentsFit(int macro, int cutBase) {
      int found = (cutTop - cutBase) / 4;
      int wanted = macros[macro + M_COUNT];
      boolean none = found == 1 && cuts[cutBase] == cuts[cutBase + 1];
      if ((macros[macro + M_FLAGS] & VARIADIC) == 0) {
        return wanted == 0 ? none : found == wanted;
      }
      if (found == wanted) {
        openArgument();
        return true;
      }
      return found == wanted + 1;
    }

    private int parameterAt(int macro, int piece) {
      if ((macros[macro + M_FLAGS] & CALLED) == 0) {
        return -1;
      }
      int first = macros[macro + M_PARAMETERS];
      return parameterOf(macros[macro + M_FLAGS], first, macros[macro + M_COUNT], pieces.text[piece]);
    }

    private boolean besidePaste(int macro, int at) {
      return at > macros[macro + M_BODY] && pieces.text[at - 1] == PASTE
          || at + 1 < macros[macro + M_END] && pieces.text[at + 1] == PASTE;
    }

    /** Puts the spelling of the string of each # behind the arguments' cuts. */
    private void makeStrings(int macro, int cutBase, int where) {
      for (int i = macros[macro + M_BODY]; i + 1 < macros[macro + M_END] && pieces.fault == 0; i++) {
        if (pieces.text[i] == HASH) {
          int argument = cutBase + 4 * parameterAt(macro, i + 1);
          putCut(stringOf(cuts[argument], cuts[argument + 1], where));
          i++;
        }
      }
    }

    private int stringOf(int from, int to, int where) {
      long length = 2;
      for (int i = from; i < to; i++) {
        length += pieces.lengthOf(pieces.text[work[i]]) + slashesIn(work[i]);
        length += i > from && pieces.spaced[work[i]] ? 1 : 0;
      }
      if (!pieces.counted((length + 7) / 8, faultAt(where))) {
        return W_ZERO;
      }
      buffer = grown(buffer, (int) length);
      int at = 0;
      buffer[at++] = '"';
      for (int i = from; i < to; i++) {
        if (i > from && pieces.spaced[work[i]]) {
          buffer[at++] = ' ';
        }
        at = putSlashed(pieces.text[work[i]], at);
      }
      buffer[at++] = '"';
      return pieces.spell(buffer, 0, at, Pieces.STRING);
    }

    private boolean isQuoted(int spelling) {
      return pieces.kind[spelling] == Pieces.STRING || pieces.kind[spelling] == Pieces.CHARACTER;
    }

    private int slashesIn(int piece) {
      int spelling = pieces.text[piece];
      int slashes = 0;
      for (int i = pieces.start[spelling]; i < pieces.start[spelling + 1] && isQuoted(spelling); i++) {
        slashes += pieces.pool[i] == '"' || pieces.pool[i] == '\\' ? 1 : 0;
      }
      return slashes;
    }

    private int putSlashed(int spelling, int from) {
      int at = from;
      boolean quoted = isQuoted(spelling);
      for (int i = pieces.start[spelling]; i < pieces.start[spelling + 1]; i++) {
        if (quoted && (pieces.pool[i] == '"' || pieces.pool[i] == '\\')) {
          buffer[at++] = '\\';
        }
        buffer[at++] = pieces.pool[i];
      }
      return at;
    }

    /** Replaces each argument once whose parameter stands in the body neither behind # nor beside ##. */
    private void replaceArguments(int macro, int cutBase, int depth, int where) {
      for (int i = macros[macro + M_BODY]; i < macros[macro + M_END] && pieces.fault == 0; i++) {
        int parameter = parameterAt(macro, i);
        if (pieces.text[i] == HASH) {
          i++;
        } else if (parameter >= 0 && !besidePaste(macro, i) && cuts[cutBase + 4 * parameter + 2] < 0) {
          if (depth >= DEEPEST) {
            pieces.fail(5, faultAt(where));
            return;
          }
          int argument = cutBase + 4 * parameter;
          int from = workTop;
          int base = inTop;
          putIn(work, cuts[argument], cuts[argument + 1]);
          replace(base, depth + 1, where);
          cuts[argument + 2] = from;
          cuts[argument + 3] = workTop;
        }
      }
    }

    /** Builds the row that a macro's name is replaced by, with # and ## done. */
    private void buildRow(int macro, int cutBase, int where) {
      int string = cutBase + 4 * argumentsOf(macro);
      boolean called = (macros[macro + M_FLAGS] & CALLED) != 0;
      boolean paste = false;
      rowLength = 0;
      rowOver = false;
      for (int i = macros[macro + M_BODY]; i < macros[macro + M_END] && pieces.fault == 0; i++) {
        int spelling = pieces.text[i];
        if (spelling == PASTE && !paste) {
          paste = true;
          continue;
        }
        int parameter = parameterAt(macro, i);
        if (called && spelling == HASH) {
          put(cuts[string++], pieces.spaced[i], 0, paste, where);
          i++;
        } else if (parameter >= 0) {
          putArgument(cutBase + 4 * parameter, i, besidePaste(macro, i), paste, where);
        } else {
          put(spelling, pieces.spaced[i], 0, paste, where);
        }
        paste = false;
      }
    }

    private void putArgument(int argument, int parameter, boolean asItIs, boolean paste, int where) {
      int from = cuts[argument + (asItIs ? 0 : 2)];
      int to = cuts[argument + (asItIs ? 1 : 3)];
      if (from >= to && asItIs) {
        put(NOTHING, false, 0, paste, where);
      }
      for (int i = from; i < to && i >= 0; i++) {
        boolean isSpaced = i == from ? pieces.spaced[parameter] : pieces.spaced[work[i]];
        put(pieces.text[work[i]], isSpaced, pieces.hidden[work[i]], paste && i == from, where);
      }
    }

    /** Puts one more piece behind the row, or makes one of it and the row's last. */
    private void put(int spelling, boolean isSpaced, int hides, boolean paste, int where) {
      int last = 3 * (rowLength - 1);
      if (paste && rowLength > 0 && row[last] != NOTHING) {
        if (spelling != NOTHING) {
          row[last] = pasted(row[last], spelling, where);
          row[last + 2] = common(row[last + 2], hides);
        }
        return;
      }
      if (rowLength > 0 && row[last] == NOTHING) {
        rowLength--;
      } else if (rowLength >= ROW_LIMIT) {
        rowOver = true;
        rowLength--;
      }
      int at = 3 * rowLength++;
      row[at] = spelling;
      row[at + 1] = isSpaced ? 1 : 0;
      row[at + 2] = hides;
    }

    private int pasted(int left, int right, int where) {
      int length = pieces.lengthOf(left) + pieces.lengthOf(right);
      buffer = grown(buffer, length);
      System.arraycopy(pieces.pool, pieces.start[left], buffer, 0, pieces.lengthOf(left));
      System.arraycopy(pieces.pool, pieces.start[right], buffer, pieces.lengthOf(left), pieces.lengthOf(right));
      int end = pieces.cut(buffer, 0, length);
      if (pieces.cutKind == Pieces.BAD || end != length) {
        pieces.fail(1, faultAt(where));
        return left;
      }
      int kind = pieces.cutKind;
      return pieces.counted(eighths(length), faultAt(where)) ? pieces.spell(buffer, 0, length, kind) : left;
    }

    /** Counts the row, makes its pieces and puts them into the input. */
    private void putRow(int name, int hides, int where) {
      long count = rowOver ? MANY : 0;
      for (int i = 0; i < rowLength; i++) {
        int spelling = row[3 * i];
        if (spelling != NOTHING) {
          boolean string = pieces.kind[spelling] == Pieces.STRING;
          count += string ? eighths(pieces.lengthOf(spelling)) : 1;
        }
      }
      if (pieces.fault != 0 || !pieces.counted(count, faultAt(where))) {
        return;
      }
      int first = pieces.made;
      for (int i = 0; i < rowLength; i++) {
        if (row[3 * i] != NOTHING) {
          boolean isSpaced = pieces.made == first ? pieces.spaced[name] : row[3 * i + 1] != 0;
          pieces.make(row[3 * i], where, isSpaced, union(row[3 * i + 2], hides));
        }
      }
      in = grown(in, inTop + pieces.made - first);
      for (int piece = pieces.made - 1; piece >= first; piece--) {
        in[inTop++] = piece;
      }
    }

    // Sets of hidden names: set 0 is empty, each other one is a name and a smaller set (name, rest, size, next).

    private boolean has(int set, int name) {
      int at = set;
      for (int n = 0; n < setCount && at > 0; n++) {
        if (sets[4 * at] == name) {
          return true;
        }
        at = sets[4 * at + 1];
      }
      return false;
    }

    private int with(int set, int name) {
      if (has(set, name)) {
        return set;
      }
      int h = (name * 31 + set) & SET_HASHES - 1;
      int at = setHeads[h];
      for (int n = 0; n < setCount && at > 0; n++) {
        if (sets[4 * at] == name && sets[4 * at + 1] == set) {
          return at;
        }
        at = sets[4 * at + 3];
      }
      if (setCount >= MOST_SETS) {
        return set;
      }
      at = setCount++;
      sets = grown(sets, 4 * at + 3);
      sets[4 * at] = name;
      sets[4 * at + 1] = set;
      sets[4 * at + 2] = sizeOf(set) + 1;
      sets[4 * at + 3] = setHeads[h];
      setHeads[h] = at;
      return at;
    }

    private int sizeOf(int set) {
      return set == 0 ? 0 : sets[4 * set + 2];
    }

    private int union(int a, int b) {
      int result = sizeOf(a) > sizeOf(b) ? a : b;
      int rest = result == a ? b : a;
      for (int n = 0; n < MOST_SETS && rest > 0 && a != b; n++) {
        result = with(result, sets[4 * rest]);
        rest = sets[4 * rest + 1];
      }
      return result;
    }

    private int common(int a, int b) {
      if (a == b) {
        return a;
      }
      int result = 0;
      int rest = a;
      for (int n = 0; n < MOST_SETS && rest > 0; n++) {
        if (has(b, sets[4 * rest])) {
          result = with(result, sets[4 * rest]);
        }
        rest = sets[4 * rest + 1];
      }
      return result;
    }
  }

  /** Takes the texts in one another through their directives; what is left of them are the result's pieces. */
  private static final class Preprocessor {
    private static final int MOST_TEXTS = 15;
    private static final int DEEPEST = 40;
    private static final String TRIGRAPHS = "=(/)'<!>-";
    private static final String TRIGRAPHS_MEAN = "#[\\]^{|}~";
    // What is kept of a row of branches: where its if stands, and these.
    private static final int OUTER_KEPT = 1;
    private static final int TAKEN = 2;
    private static final int KEEPING = 4;
    private static final int ELSE_SEEN = 8;

    private final Pieces pieces;
    private final Replacer replacer;
    private byte[][] headers = new byte[0][0];
    private byte[][] names = new byte[0][0];
    private int headerCount;
    // The texts that are open, the innermost last.
    private final byte[][] bytes = new byte[MOST_TEXTS][0];
    private final int[][] lines = new int[MOST_TEXTS][0];
    private final int[] ends = new int[MOST_TEXTS];
    private final int[] ats = new int[MOST_TEXTS];
    private final int[] files = new int[MOST_TEXTS];
    private final int[] ifBases = new int[MOST_TEXTS];
    private int level;
    private int[] ifs = new int[64];
    private int ifTop;
    private int[] result = new int[1024];
    private int resultLength;
    private int[] list = new int[64];
    // A condition: the next of its pieces, how many reasons there are to work out nothing, open operators.
    private int at;
    private int idle;
    private final int[] operators = new int[1024];
    private final long[] left = new long[1024];
    private int operatorTop;

    private Preprocessor(Pieces pieces) {
      this.pieces = pieces;
      replacer = new Replacer(pieces);
    }

    private void preprocess(byte[] source, byte[][] texts, byte[][] textNames, int count) {
      headers = texts;
      names = textNames;
      headerCount = count;
      level = -1;
      ifTop = 0;
      resultLength = 0;
      replacer.beginUnit(textNames);
      open(source, 0);
      for (int n = 0; n < MANY && level >= 0 && pieces.fault == 0; n++) {
        goOn();
      }
    }

    private void open(byte[] text, int file) {
      level++;
      files[level] = file;
      ifBases[level] = ifTop;
      ats[level] = 0;
      bytes[level] = Arrays.copyOf(text, text.length);
      lines[level] = new int[text.length];
      checkBytes();
      if (pieces.fault == 0) {
        dropReturns();
        replaceTrigraphs();
        joinLines();
        dropComments();
      }
    }

    private int placeAt(int i) {
      return place(files[level], lines[level][i]);
    }

    private void checkBytes() {
      byte[] b = bytes[level];
      int line = 1;
      ends[level] = b.length;
      for (int i = 0; i < b.length; i++) {
        lines[level][i] = line;
        if ((b[i] < 32 || b[i] > 126) && b[i] != 9 && b[i] != 10 && b[i] != 13) {
          pieces.fail(1, placeAt(i));
          return;
        }
        line += b[i] == 10 ? 1 : 0;
      }
    }

    private void dropReturns() {
      byte[] b = bytes[level];
      int to = 0;
      for (int i = 0; i < ends[level]; i++) {
        if (b[i] != 13) {
          move(i, to++, b[i]);
        }
      }
      ends[level] = to;
    }

    private void move(int from, int to, int as) {
      bytes[level][to] = (byte) as;
      lines[level][to] = lines[level][from];
    }

    private void replaceTrigraphs() {
      byte[] b = bytes[level];
      int end = ends[level];
      int to = 0;
      for (int i = 0; i < end; i++) {
        int which = i + 2 < end && b[i] == '?' && b[i + 1] == '?' ? TRIGRAPHS.indexOf((char) b[i + 2]) : -1;
        move(i, to++, which < 0 ? b[i] : TRIGRAPHS_MEAN.charAt(which));
        i += which < 0 ? 0 : 2;
      }
      ends[level] = to;
    }

    private void joinLines() {
      byte[] b = bytes[level];
      int end = ends[level];
      int to = 0;
      for (int i = 0; i < end; i++) {
        if (b[i] == '\\' && i + 1 < end && b[i + 1] == 10) {
          i++;
        } else {
          move(i, to++, b[i]);
        }
      }
      ends[level] = to;
    }

    private void dropComments() {
      byte[] b = bytes[level];
      int end = ends[level];
      int to = 0;
      int quote = 0;
      for (int i = 0; i < end && pieces.fault == 0; i++) {
        int c = b[i];
        if (quote == 0 && c == '/' && i + 1 < end && (b[i + 1] == '/' || b[i + 1] == '*')) {
          int behind = b[i + 1] == '/' ? lineEnd(i) : commentEnd(i);
          move(i, to++, ' ');
          i = behind - 1;
          continue;
        }
        move(i, to++, c);
        if (quote != 0 && c == '\\' && i + 1 < end && b[i + 1] != 10) {
          i++;
          move(i, to++, b[i]);
        } else if (quote == 0 ? c == '"' || c == '\'' : c == quote || c == 10) {
          quote = quote == 0 ? c : 0;
        }
      }
      ends[level] = to;
    }

    private int lineEnd(int from) {
      int i = from;
      while (i < ends[level] && bytes[level][i] != 10) {
        i++;
      }
      return i;
    }

    private int commentEnd(int from) {
      byte[] b = bytes[level];
      for (int i = from + 2; i + 1 < ends[level]; i++) {
        if (b[i] == '*' && b[i + 1] == '/') {
          return i + 2;
        }
      }
      pieces.fail(1, placeAt(from));
      return ends[level];
    }

    private boolean keeping() {
      return ifTop == 0 || (ifs[ifTop - 1] & KEEPING) != 0;
    }

    /** Does the next directive, group or line not kept of the innermost text, or closes it. */
    private void goOn() {
      int from = ats[level];
      if (from >= ends[level]) {
        if (ifTop > ifBases[level]) {
          pieces.fail(1, ifs[ifTop - 2]);
        }
        level--;
      } else if (isDirective(from)) {
        int end = lineEnd(from);
        ats[level] = end + 1;
        directive(skipBlanks(from, end), end);
      } else if (!keeping()) {
        ats[level] = lineEnd(from) + 1;
      } else {
        group(from);
      }
    }

    private int skipBlanks(int from, int end) {
      int i = from;
      while (i < end && (bytes[level][i] == ' ' || bytes[level][i] == 9)) {
        i++;
      }
      return i;
    }

    private boolean isDirective(int from) {
      int end = ends[level];
      int i = skipBlanks(from, end);
      return i < end && bytes[level][i] == '#' && (i + 1 >= end || bytes[level][i + 1] != '#');
    }

    private void group(int from) {
      int first = pieces.made;
      int end = from;
      for (int n = 0; n < MANY && end < ends[level] && !isDirective(end) && pieces.fault == 0; n++) {
        int behind = lineEnd(end);
        cutAll(end, behind);
        end = behind + 1;
      }
      ats[level] = end;
      if (pieces.fault == 0) {
        listPieces(first, pieces.made);
        replacer.replaceAll(list, 0, pieces.made - first, -1);
        keepResult();
      }
    }

    private void listPieces(int from, int to) {
      list = grown(list, to - from);
      for (int i = from; i < to; i++) {
        list[i - from] = i;
      }
    }

    private void keepResult() {
      result = grown(result, resultLength + replacer.workTop);
      System.arraycopy(replacer.work, 0, result, resultLength, replacer.workTop);
      resultLength += replacer.workTop;
    }

    /** Cuts a line's bytes into pieces, which are counted. */
    private void cutAll(int from, int end) {
      byte[] b = bytes[level];
      int i = skipBlanks(from, end);
      for (int n = 0; n < MANY && i < end && pieces.fault == 0; n++) {
        int behind = pieces.cut(b, i, end);
        if (pieces.cutKind == Pieces.BAD) {
          pieces.fail(1, placeAt(i));
        } else if (pieces.counted(1, placeAt(i))) {
          boolean isSpaced = i > 0 && (b[i - 1] == ' ' || b[i - 1] == 9 || b[i - 1] == 10);
          pieces.make(pieces.spell(b, i, behind, pieces.cutKind), placeAt(i), isSpaced, 0);
        }
        i = skipBlanks(behind, end);
      }
    }

    /** Does the directive whose # stands at a byte. */
    private void directive(int hash, int end) {
      int where = placeAt(hash);
      int from = skipBlanks(hash + 1, end);
      int behind = Pieces.nameEnd(bytes[level], from, end);
      int word = behind > from ? pieces.find(bytes[level], from, behind) : -1;
      if (word == K_IF || word == W_IFDEF || word == W_IFNDEF) {
        openBranches(word, behind, end, where);
      } else if (word == W_ELIF || word == K_ELSE || word == W_ENDIF) {
        nextBranch(word, behind, end, where);
      } else if (keeping()) {
        simpleDirective(word, word == W_INCLUDE ? behind : from, end, where);
      }
    }

    private void openBranches(int word, int behind, int end, int where) {
      int state = 0;
      if (keeping()) {
        boolean holds = word == K_IF ? condition(behind, end, where) : isDefined(behind, end, where) == (word == W_IFDEF);
        state = OUTER_KEPT | (holds ? TAKEN | KEEPING : 0);
      }
      ifs = grown(ifs, ifTop + 1);
      ifs[ifTop] = where;
      ifs[ifTop + 1] = state;
      ifTop += 2;
    }

    private boolean isDefined(int from, int end, int where) {
      int first = pieces.made;
      cutAll(from, end);
      if (pieces.fault != 0 || pieces.made != first + 1 || !replacer.isName(first)) {
        pieces.fail(1, where);
        return false;
      }
      return replacer.isMacro(pieces.text[first]);
    }

    private void nextBranch(int word, int behind, int end, int where) {
      boolean open = ifTop > ifBases[level];
      int state = open ? ifs[ifTop - 1] : OUTER_KEPT;
      boolean misplaced = !open || word != W_ENDIF && (state & ELSE_SEEN) != 0;
      int first = pieces.made;
      if ((state & OUTER_KEPT) != 0 && (misplaced || word != W_ELIF)) {
        cutAll(behind, end);
      }
      if (misplaced || pieces.made > first) {
        pieces.fail(1, where);
      } else if (word == W_ENDIF) {
        ifTop -= 2;
      } else if (word == K_ELSE) {
        boolean keep = (state & OUTER_KEPT) != 0 && (state & TAKEN) == 0;
        ifs[ifTop - 1] = state & ~KEEPING | ELSE_SEEN | (keep ? TAKEN | KEEPING : 0);
      } else {
        boolean keep = (state & OUTER_KEPT) != 0 && (state & TAKEN) == 0 && condition(behind, end, where);
        ifs[ifTop - 1] = state & ~KEEPING | (keep ? TAKEN | KEEPING : 0);
      }
    }

    private void simpleDirective(int word, int from, int end, int where) {
      if (word == W_INCLUDE) {
        include(from, end, where);
        return;
      }
      int first = pieces.made;
      cutAll(from, end);
      int last = pieces.made;
      boolean right = first == last;
      if (word == W_DEFINE) {
        right = replacer.define(first + 1, last);
      } else if (word == W_UNDEF) {
        right = replacer.undefine(first + 1, last);
      } else if (word == W_PRAGMA) {
        right = true;
      }
      if (!right) {
        pieces.fail(1, where);
      }
    }

    private void include(int from, int end, int where) {
      byte[] b = bytes[level];
      int begin = skipBlanks(from, end);
      int last = -1;
      if (begin < end && b[begin] == '<') {
        last = begin + 1;
        while (last < end && b[last] != '>') {
          last++;
        }
        last = last < end && skipBlanks(last + 1, end) == end ? last : -1;
      } else {
        int first = pieces.made;
        cutAll(begin, end);
        boolean string = pieces.made == first + 1 && pieces.kind[pieces.text[first]] == Pieces.STRING;
        last = string ? begin + pieces.lengthOf(pieces.text[first]) - 1 : -1;
      }
      if (last < 0) {
        pieces.fail(1, where);
      } else if (pieces.fault == 0) {
        includeText(begin + 1, last, where);
      }
    }

    private void includeText(int from, int to, int where) {
      byte[] b = bytes[level];
      int header = -1;
      for (int k = 0; k < headerCount && header < 0; k++) {
        header = sameBytes(names[k], b, from, to) ? k : -1;
      }
      int spelling = header < 0 ? pieces.find(b, from, to) : -1;
      if (header < 0) {
        if (spelling < W_HEADERS || spelling >= W_LIBRARY) {
          pieces.fail(1, where);
        }
      } else if (level + 1 >= MOST_TEXTS) {
        pieces.fail(1, where);
      } else if (pieces.counted(16 + (headers[header].length + 7) / 8, where)) {
        open(headers[header], header + 1);
      }
    }

    // Conditions.

    private boolean condition(int from, int end, int where) {
      int first = pieces.made;
      cutAll(from, end);
      int count = listWithDefined(first, pieces.made, where);
      if (pieces.fault != 0) {
        return false;
      }
      replacer.replaceAll(list, 0, count, where);
      at = 0;
      idle = 0;
      operatorTop = 0;
      long worth = choice(0, where);
      if (at < replacer.workTop) {
        pieces.fail(1, where);
      }
      return pieces.fault == 0 && worth != 0;
    }

    /** Lists the pieces, with a 1 or 0 for each defined; how many there are. */
    private int listWithDefined(int from, int to, int where) {
      int count = 0;
      list = grown(list, to - from);
      for (int i = from; i < to && pieces.fault == 0; i++) {
        if (pieces.text[i] != W_DEFINED) {
          list[count++] = i;
          continue;
        }
        boolean bracketed = i + 1 < to && pieces.text[i + 1] == OPEN;
        int name = bracketed ? i + 2 : i + 1;
        boolean closed = !bracketed || name + 1 < to && pieces.text[name + 1] == CLOSE;
        if (name >= to || !replacer.isName(name) || !closed) {
          pieces.fail(1, where);
          return 0;
        }
        int worth = replacer.isMacro(pieces.text[name]) ? W_ONE : W_ZERO;
        list[count++] = Math.max(pieces.make(worth, pieces.place[i], pieces.spaced[i], 0), 0);
        i = bracketed ? name + 1 : name;
      }
      return count;
    }

    private int sign() {
      return pieces.fault == 0 && at < replacer.workTop ? pieces.text[replacer.work[at]] : -1;
    }

    private long wrong(int where) {
      pieces.fail(1, where);
      return 0;
    }

    private boolean tooDeep(int depth, int where) {
      if (depth > DEEPEST && at < replacer.workTop) {
        pieces.fail(5, where);
      }
      return pieces.fault != 0;
    }

    private long choice(int depth, int where) {
      long worth = binary(depth, where);
      if (sign() != QUESTION) {
        return worth;
      }
      at++;
      boolean first = worth != 0;
      if (tooDeep(depth + 1, where)) {
        return 0;
      }
      idle += first ? 0 : 1;
      long yes = choice(depth + 1, where);
      idle += first ? 1 : -1;
      if (sign() != COLON) {
        return wrong(where);
      }
      at++;
      if (tooDeep(depth + 1, where)) {
        return 0;
      }
      long no = choice(depth + 1, where);
      idle -= first ? 1 : 0;
      return first ? yes : no;
    }

    private long binary(int depth, int where) {
      int base = operatorTop;
      long worth = unary(depth, where);
      for (int n = 0; n < MANY && rankOf(sign()) > 0; n++) {
        worth = reduce(base, rankOf(sign()), worth, where);
        if (operatorTop >= operators.length) {
          return wrong(where);
        }
        boolean skips = sign() == AND_AND && worth == 0 || sign() == OR_OR && worth != 0;
        idle += skips ? 1 : 0;
        operators[operatorTop] = sign() | (skips ? 256 : 0);
        left[operatorTop++] = worth;
        at++;
        worth = unary(depth, where);
      }
      return reduce(base, 0, worth, where);
    }

    /** Works out the open operators of at least a rank. */
    private long reduce(int base, int rank, long right, int where) {
      long worth = right;
      for (int n = 0; n < MANY && operatorTop > base && rankOf(operators[operatorTop - 1] & 255) >= rank; n++) {
        operatorTop--;
        int operator = operators[operatorTop] & 255;
        idle -= operators[operatorTop] > 255 ? 1 : 0;
        worth = worked(operator, left[operatorTop], worth, where);
      }
      return worth;
    }

    private long unary(int depth, int where) {
      int s = sign();
      if (s == PLUS || s == MINUS || s == TILDE || s == NOT) {
        at++;
        if (tooDeep(depth + 1, where)) {
          return 0;
        }
        long worth = unary(depth + 1, where);
        return s == PLUS ? worth : s == MINUS ? -worth : s == TILDE ? ~worth : worth == 0 ? 1 : 0;
      }
      if (s == OPEN) {
        if (tooDeep(depth + 1, where)) {
          return 0;
        }
        at++;
        long worth = choice(depth + 1, where);
        if (sign() != CLOSE) {
          return wrong(where);
        }
        at++;
        return worth;
      }
      return constant(where);
    }

    private long constant(int where) {
      int s = sign();
      int kind = s < 0 ? Pieces.BAD : pieces.kind[s];
      at++;
      if (kind == Pieces.NAME) {
        return 0;
      }
      boolean right = kind == Pieces.NUMBER && pieces.numberWorth(s) == 1
          || kind == Pieces.CHARACTER && pieces.characterWorth(s);
      return right ? pieces.value : wrong(where);
    }

    private long worked(int operator, long a, long b, int where) {
      boolean divides = operator == SLASH || operator == PERCENT;
      boolean shifts = operator == SHIFT_LEFT || operator == SHIFT_RIGHT;
      if (divides && b == 0 || shifts && (b < 0 || b > 63)) {
        return idle > 0 ? 0 : wrong(where);
      }
      switch (operator) {
        case STAR: return a * b;
        case SLASH: return b == -1 ? -a : a / b;
        case PERCENT: return b == -1 ? 0 : a % b;
        case PLUS: return a + b;
        case MINUS: return a - b;
        case SHIFT_LEFT: return a << b;
        case SHIFT_RIGHT: return a >> b;
        case AMPERSAND: return a & b;
        case CARET: return a ^ b;
        case BAR: return a | b;
        default: return holds(operator, a, b) ? 1 : 0;
      }
    }

    private static boolean holds(int operator, long a, long b) {
      switch (operator) {
        case LESS: return a < b;
        case GREATER: return a > b;
        case LESS_EQUAL: return a <= b;
        case GREATER_EQUAL: return a >= b;
        case EQUAL: return a == b;
        case UNEQUAL: return a != b;
        case AND_AND: return a != 0 && b != 0;
        default: return a != 0 || b != 0;
      }
    }
  }

  /** How strongly a sign binds that may stand between two operands; 0 for others. */
  private static int rankOf(int sign) {
    switch (sign) {
      case STAR: case SLASH: case PERCENT: return 10;
      case PLUS: case MINUS: return 9;
      case SHIFT_LEFT: case SHIFT_RIGHT: return 8;
      case LESS: case GREATER: case LESS_EQUAL: case GREATER_EQUAL: return 7;
      case EQUAL: case UNEQUAL: return 6;
      case AMPERSAND: return 5;
      case CARET: return 4;
      case BAR: return 3;
      case AND_AND: return 2;
      case OR_OR: return 1;
      default: return 0;
    }
  }

  /** Makes tokens of the pieces, looks whether they are a unit, and tells what it is made of as a row of events. */
  private static final class Parser {
    private static final int DEEPEST = 40;
    // Kinds of tokens; keywords and signs are their own kinds.
    private static final int T_NAME = 90;
    private static final int T_INTEGER = 91;
    private static final int T_FLOATING = 92;
    private static final int T_STRING = 93;
    private static final int T_END = 94;
    // Whether a declarator has an identifier.
    private static final int NAMED = 0;
    private static final int ABSTRACT = 1;
    private static final int EITHER = 2;

    private final Pieces pieces;
    // Tokens: the kind and, in the upper bits, the type; the place; and the value (of a name its spelling, of a
    // floating number its bits, of a string where it begins in the texts and, in the upper half, its length).
    private int[] kinds = new int[1024];
    private int[] places = new int[1024];
    private long[] values = new long[1024];
    private int count;
    private byte[] texts = new byte[1024];
    private int textLength;
    private int at;
    private int[] events = new int[4096];
    private int eventCount;
    private final int[] operators = new int[1024];
    private int operatorTop;
    /** Whether an identifier means a type here, by its spelling; and what it did before, to be undone. */
    private int[] meansType = new int[1024];
    private int[] undone = new int[256];
    private int undoneTop;
    // Of the latest declarator: its name, whether it ends with ( ), the event of the ( ) right behind the name,
    // and the identifiers that these ( ) declare, for the body.
    private int nameToken;
    private boolean endsWithParameters;
    private int nearEvent;
    private int[] kept = new int[64];
    private int keptCount;
    private int nest;

    private Parser(Pieces pieces) {
      this.pieces = pieces;
    }

    // Tokens.

    private void readTokens(int[] row, int length) {
      count = 0;
      textLength = 0;
      for (int i = 0; i < length && pieces.fault == 0; i++) {
        readToken(pieces.text[row[i]], pieces.place[row[i]]);
      }
    }

    private void readToken(int spelling, int where) {
      int kind = pieces.kind[spelling];
      boolean right = true;
      if (kind == Pieces.NAME) {
        addToken(spelling >= K_AUTO && spelling <= K_VA_ARG ? spelling : T_NAME, where, spelling);
      } else if (kind == Pieces.NUMBER) {
        right = readNumber(spelling, where);
      } else if (kind == Pieces.CHARACTER) {
        right = pieces.characterWorth(spelling);
        addToken(INT << 8 | T_INTEGER, where, pieces.value);
      } else if (kind == Pieces.STRING) {
        right = readString(spelling, where);
      } else {
        right = spelling != HASH && spelling != PASTE;
        addToken(spelling, where, 0);
      }
      if (!right) {
        pieces.fail(2, where);
      }
    }

    private void addToken(int kind, int where, long value) {
      kinds = grown(kinds, count);
      places = grown(places, count);
      values = grown(values, count);
      kinds[count] = kind;
      places[count] = where;
      values[count++] = value;
    }

    private boolean readNumber(int spelling, int where) {
      int worth = pieces.numberWorth(spelling);
      if (worth == 2) {
        addToken(pieces.valueType << 8 | T_FLOATING, where, Machine.bitsOf(pieces.real));
      } else {
        addToken(pieces.valueType << 8 | T_INTEGER, where, pieces.value);
      }
      return worth != 0;
    }

    private boolean readString(int spelling, int where) {
      texts = grown(texts, textLength + pieces.lengthOf(spelling));
      int end = pieces.decode(spelling, texts, textLength);
      if (end < 0) {
        return false;
      }
      if (count == 0 || kinds[count - 1] != T_STRING) {
        addToken(T_STRING, where, textLength);
      }
      values[count - 1] += (long) (end - textLength) << 32;
      textLength = end;
      return true;
    }

    // Walking over the tokens.

    private int kindAt(int i) {
      return i < count && pieces.fault == 0 ? kinds[i] & 255 : T_END;
    }

    private int kind() {
      return kindAt(at);
    }

    private void refuse() {
      int i = Math.min(at, count - 1);
      pieces.fail(3, i < 0 ? place(0, 1) : places[i]);
    }

    private void expect(int kind) {
      if (kind() == kind) {
        at++;
      } else {
        refuse();
      }
    }

    private boolean accept(int kind) {
      if (kind() != kind) {
        return false;
      }
      at++;
      return true;
    }

    /** Looks at a depth where what is so deep begins. */
    private boolean tooDeep(int depth) {
      if (depth > DEEPEST && at < count) {
        pieces.fail(5, places[at]);
      }
      return pieces.fault != 0;
    }

    /** The same for an operand: a token that begins none is another fault. */
    private boolean operandTooDeep(int depth) {
      return beginsOperand(kind()) && tooDeep(depth);
    }

    private static boolean beginsOperand(int kind) {
      switch (kind) {
        case T_NAME: case T_INTEGER: case T_FLOATING: case T_STRING: case OPEN: case K_VA_ARG: case K_SIZEOF:
          return true;
        default:
          return isPrefix(kind);
      }
    }

    private static boolean isPrefix(int kind) {
      return kind >= INCREASE && kind <= NOT;
    }

    private void emit(int event, int number) {
      events = grown(events, eventCount);
      events[eventCount++] = number << 8 | event;
    }

    private int nameAt(int token) {
      return (int) values[token];
    }

    private boolean isTypeName(int i) {
      return kindAt(i) == T_NAME && meaning(nameAt(i)) != 0;
    }

    private int meaning(int name) {
      return name < meansType.length ? meansType[name] : 0;
    }

    private void mean(int name, int what) {
      undone = grown(undone, undoneTop + 1);
      undone[undoneTop++] = name;
      undone[undoneTop++] = meaning(name);
      meansType = grown(meansType, name);
      meansType[name] = what;
    }

    private void declare(int token, boolean asType) {
      if (token >= 0 && token < count) {
        mean(nameAt(token), asType ? 1 : 0);
      }
    }

    private void closeScope(int mark) {
      while (undoneTop > mark) {
        undoneTop -= 2;
        meansType[undone[undoneTop]] = undone[undoneTop + 1];
      }
    }

    private static boolean isStorage(int kind) {
      return kind == K_TYPEDEF || kind == K_EXTERN || kind == K_STATIC || kind == K_INLINE || kind == K_AUTO
          || kind == K_REGISTER;
    }

    private static boolean isQualifier(int kind) {
      return kind == K_CONST || kind == K_VOLATILE || kind == K_RESTRICT;
    }

    private static boolean isTypeWord(int kind) {
      switch (kind) {
        case K_VOID: case K_CHAR: case K_SHORT: case K_INT: case K_LONG: case K_FLOAT: case K_DOUBLE:
        case K_SIGNED: case K_UNSIGNED:
          return true;
        default:
          return false;
      }
    }

    private static boolean isTagWord(int kind) {
      return kind == K_STRUCT || kind == K_UNION || kind == K_ENUM;
    }

    /** Whether specifiers without storage begin here. */
    private boolean beginsType(int i) {
      int kind = kindAt(i);
      return isTypeWord(kind) || isQualifier(kind) || isTagWord(kind) || isTypeName(i);
    }

    private boolean beginsSpecifiers(int i) {
      return isStorage(kindAt(i)) || beginsType(i);
    }

    // Declarations.

    private void parseUnit() {
      at = 0;
      eventCount = 0;
      operatorTop = 0;
      undoneTop = 0;
      nest = 0;
      Arrays.fill(meansType, 0);
      mean(W_SIZE_T, 1);
      mean(W_FILE_TYPE, 1);
      mean(W_VA_LIST, 1);
      for (int n = 0; n < MANY && kind() != T_END; n++) {
        declaration(0, true);
      }
      emit(E_END, 0);
    }

    private void declaration(int depth, boolean external) {
      emit(E_DECLARATION, at);
      boolean asType = specifiers(depth, true);
      boolean more = !accept(SEMICOLON);
      boolean bodyFits = external;
      for (int n = 0; n < MANY && more && pieces.fault == 0; n++) {
        nameToken = -1;
        nearEvent = -1;
        keptCount = 0;
        wholeDeclarator(depth, NAMED);
        boolean body = bodyFits && endsWithParameters && kind() == OPEN_BRACE;
        emit(E_DECLARE, body ? 2 : kind() == ASSIGN ? 1 : 0);
        declare(nameToken, asType);
        if (body) {
          functionBody(depth);
          more = false;
        } else {
          if (accept(ASSIGN)) {
            initialiser(depth);
          }
          more = accept(COMMA);
          if (!more) {
            expect(SEMICOLON);
          }
        }
        bodyFits = false;
      }
      emit(E_DECLARATION_END, 0);
    }

    private void functionBody(int depth) {
      if (nearEvent >= 0) {
        events[nearEvent] = 1 << 8 | E_PARAMETERS;
      }
      emit(E_FUNCTION, nearEvent >= 0 ? 1 : 0);
      int mark = undoneTop;
      for (int i = 0; i < keptCount; i += 2) {
        mean(kept[i], kept[i + 1]);
      }
      if (!tooDeep(depth + 1)) {
        at++;
        items(depth + 1);
        emit(E_FUNCTION_END, at);
        expect(CLOSE_BRACE);
      }
      closeScope(mark);
    }

    /** Reads specifiers; true if typedef is one of them. */
    private boolean specifiers(int depth, boolean storage) {
      int begin = eventCount;
      int first = at;
      boolean typed = false;
      boolean asType = false;
      emit(E_SPECIFIERS, at);
      for (int n = 0; n < MANY && pieces.fault == 0; n++) {
        int kind = kind();
        if (isQualifier(kind) || isTypeWord(kind) || storage && isStorage(kind)) {
          asType |= kind == K_TYPEDEF;
          typed |= isTypeWord(kind);
          emit(E_WORD, at++);
        } else if (isTagWord(kind)) {
          events[begin] = first << 8 | E_SPECIFIERS_TAGGED;
          typed = true;
          tagged(depth, first);
        } else if (!typed && isTypeName(at)) {
          typed = true;
          emit(E_TYPEDEF_NAME, at++);
        } else {
          break;
        }
      }
      if (at == first) {
        refuse();
      }
      emit(E_SPECIFIERS_END, 0);
      return asType;
    }

    private void tagged(int depth, int first) {
      int word = at++;
      boolean named = accept(T_NAME);
      if (kind() != OPEN_BRACE) {
        boolean alone = word == first && kind() == SEMICOLON && kinds[word] != K_ENUM;
        emit(alone ? E_TAG_ALONE : E_TAG, word);
        if (!named) {
          refuse();
        }
      } else if (!tooDeep(depth + 1)) {
        at++;
        if (kinds[word] == K_ENUM) {
          enumerators(depth + 1, word);
        } else {
          members(depth + 1, word);
        }
      }
    }

    private void enumerators(int depth, int word) {
      emit(E_ENUM, word);
      boolean more = true;
      for (int n = 0; n < MANY && more && pieces.fault == 0; n++) {
        int name = at;
        expect(T_NAME);
        emit(E_ENUMERATOR, name);
        if (accept(ASSIGN)) {
          emit(E_ENUM_VALUE, 0);
          conditional(depth, false);
        }
        declare(name, false);
        more = accept(COMMA) && kind() != CLOSE_BRACE;
      }
      expect(CLOSE_BRACE);
      emit(E_ENUM_END, 0);
    }

    private void members(int depth, int word) {
      emit(E_STRUCT, word);
      for (int n = 0; n < MANY && kind() != CLOSE_BRACE && pieces.fault == 0; n++) {
        emit(E_MEMBER, 0);
        specifiers(depth, false);
        boolean more = true;
        for (int m = 0; m < MANY && more && pieces.fault == 0; m++) {
          emit(E_FIELD, 0);
          if (kind() != COLON) {
            wholeDeclarator(depth, NAMED);
          }
          if (accept(COLON)) {
            emit(E_WIDTH, 0);
            conditional(depth, false);
          }
          more = accept(COMMA);
        }
        expect(SEMICOLON);
        emit(E_MEMBER_END, 0);
      }
      expect(CLOSE_BRACE);
      emit(E_STRUCT_END, 0);
    }

    private void wholeDeclarator(int depth, int mode) {
      emit(E_DECLARATOR, 0);
      declarator(depth, mode);
      emit(E_DECLARATOR_END, 0);
    }

    private boolean beginsDeclarator(int mode) {
      int kind = kind();
      return kind == STAR || kind == OPEN || kind == T_NAME && mode != ABSTRACT
          || kind == OPEN_INDEX && mode != NAMED;
    }

    /** The pointers are told last, behind what binds stronger. */
    private void declarator(int depth, int mode) {
      int stars = 0;
      for (int n = 0; n < MANY && accept(STAR); n++) {
        stars++;
        for (int m = 0; m < MANY && isQualifier(kind()); m++) {
          at++;
        }
        if (beginsDeclarator(mode) && tooDeep(depth + stars)) {
          return;
        }
      }
      direct(depth + stars, mode);
      if (stars > 0) {
        emit(E_POINTERS, stars);
      }
    }

    private void direct(int depth, int mode) {
      boolean near = false;
      endsWithParameters = false;
      if (kind() == T_NAME && mode != ABSTRACT) {
        emit(E_NAME, at);
        nameToken = at++;
        near = true;
      } else if (kind() == OPEN && (mode == NAMED || !beginsParameters(at + 1))) {
        if (tooDeep(depth + 1)) {
          return;
        }
        at++;
        if (beginsDeclarator(mode)) {
          declarator(depth + 1, mode);
        } else {
          refuse();
        }
        expect(CLOSE);
        endsWithParameters = false;
      } else if (mode == NAMED) {
        refuse();
      }
      for (int n = 0; n < MANY && (kind() == OPEN_INDEX || kind() == OPEN); n++) {
        if (tooDeep(depth + 1)) {
          return;
        }
        suffix(depth + 1, near);
        near = false;
      }
    }

    private boolean beginsParameters(int i) {
      return kindAt(i) == CLOSE || beginsType(i);
    }

    /** Reads [ ] or ( ); what declarators in it leave behind is forgotten. */
    private void suffix(int depth, boolean near) {
      int name = nameToken;
      int event = nearEvent;
      boolean array = accept(OPEN_INDEX);
      nest++;
      if (!array) {
        event = near && nest == 1 ? eventCount : event;
        at++;
        parameters(depth, near && nest == 1);
      } else if (accept(CLOSE_INDEX)) {
        emit(E_ARRAY_OPEN, 0);
      } else {
        emit(E_ARRAY, 0);
        conditional(depth, false);
        expect(CLOSE_INDEX);
      }
      nest--;
      nameToken = name;
      nearEvent = event;
      endsWithParameters = !array;
    }

    private void parameters(int depth, boolean keep) {
      int mark = undoneTop;
      boolean rest = false;
      emit(E_PARAMETERS, 0);
      boolean more = kind() != CLOSE;
      if (kind() == K_VOID && kindAt(at + 1) == CLOSE) {
        at++;
        more = false;
      }
      for (int n = 0; n < MANY && more && pieces.fault == 0; n++) {
        emit(E_PARAMETER, 0);
        boolean asType = specifiers(depth, true);
        nameToken = -1;
        if (kind() != COMMA && kind() != CLOSE) {
          wholeDeclarator(depth, EITHER);
        }
        declare(nameToken, asType);
        more = accept(COMMA);
        rest = more && accept(ELLIPSIS);
        more &= !rest;
      }
      expect(CLOSE);
      emit(E_PARAMETERS_END, rest ? 1 : 0);
      if (keep) {
        keepNames(mark);
      }
      closeScope(mark);
    }

    private void keepNames(int mark) {
      keptCount = 0;
      kept = grown(kept, undoneTop - mark);
      for (int i = mark; i < undoneTop; i += 2) {
        kept[keptCount++] = undone[i];
        kept[keptCount++] = meaning(undone[i]);
      }
    }

    private void typeName(int depth) {
      emit(E_TYPE_NAME, 0);
      specifiers(depth, false);
      wholeDeclarator(depth, ABSTRACT);
      emit(E_TYPE_NAME_END, 0);
    }

    private void initialiser(int depth) {
      if (kind() != OPEN_BRACE) {
        emit(E_PART, 0);
        conditional(depth, true);
        return;
      }
      if (tooDeep(depth + 1)) {
        return;
      }
      at++;
      emit(E_BRACE, 0);
      boolean more = true;
      for (int n = 0; n < MANY && more && kind() != CLOSE_BRACE && pieces.fault == 0; n++) {
        designators(depth + 1);
        initialiser(depth + 1);
        more = accept(COMMA);
      }
      expect(CLOSE_BRACE);
      emit(E_BRACE_END, 0);
    }

    private void designators(int depth) {
      int first = at;
      for (int n = 0; n < MANY && (kind() == OPEN_INDEX || kind() == DOT); n++) {
        if (accept(DOT)) {
          emit(E_MEMBER_NAME, at);
          expect(T_NAME);
        } else {
          if (tooDeep(depth + 1)) {
            return;
          }
          at++;
          emit(E_ELEMENT, 0);
          conditional(depth + 1, false);
          expect(CLOSE_INDEX);
        }
      }
      if (at > first) {
        expect(ASSIGN);
        emit(E_DESIGNATED, 0);
      }
    }

    // Statements.

    private void items(int depth) {
      for (int n = 0; n < MANY && kind() != CLOSE_BRACE && kind() != T_END; n++) {
        if (beginsSpecifiers(at) && !(isTypeName(at) && kindAt(at + 1) == COLON)) {
          declaration(depth, false);
        } else {
          statement(depth);
        }
      }
    }

    private static boolean beginsStatement(int kind) {
      switch (kind) {
        case OPEN_BRACE: case SEMICOLON: case K_IF: case K_SWITCH: case K_WHILE: case K_DO: case K_FOR: case K_GOTO:
        case K_CONTINUE: case K_BREAK: case K_RETURN: case K_CASE: case K_DEFAULT:
          return true;
        default:
          return beginsOperand(kind);
      }
    }

    private void statement(int depth) {
      int kind = kind();
      if (beginsStatement(kind) && tooDeep(depth)) {
        return;
      }
      switch (kind) {
        case OPEN_BRACE: block(depth); return;
        case SEMICOLON: emit(E_EMPTY, at++); return;
        case K_CASE: case K_DEFAULT: caseStatement(depth); return;
        case K_IF: ifStatement(depth); return;
        case K_SWITCH: loop(depth, E_SWITCH); return;
        case K_WHILE: loop(depth, E_WHILE); return;
        case K_DO: doStatement(depth); return;
        case K_FOR: forStatement(depth); return;
        case K_GOTO: case K_CONTINUE: case K_BREAK: case K_RETURN: jump(depth); return;
        default: simpleStatement(depth);
      }
    }

    /** A label with its statement, or an expression. */
    private void simpleStatement(int depth) {
      if (kind() == T_NAME && kindAt(at + 1) == COLON) {
        emit(E_LABEL, at);
        at += 2;
        statement(depth + 1);
        return;
      }
      if (isTypeName(at)) {
        // So far it could be a label: it is the token behind that can't be.
        at++;
        refuse();
        return;
      }
      emit(E_EXPRESSION, at);
      expression(depth);
      expect(SEMICOLON);
    }

    private void block(int depth) {
      if (tooDeep(depth + 1)) {
        return;
      }
      int mark = undoneTop;
      at++;
      emit(E_BLOCK, 0);
      items(depth + 1);
      expect(CLOSE_BRACE);
      emit(E_BLOCK_END, 0);
      closeScope(mark);
    }

    private void caseStatement(int depth) {
      boolean isCase = kind() == K_CASE;
      emit(isCase ? E_CASE : E_DEFAULT, at++);
      if (isCase) {
        conditional(depth, false);
      }
      expect(COLON);
      statement(depth + 1);
    }

    private void inBrackets(int depth) {
      if (kind() != OPEN) {
        refuse();
      } else if (!tooDeep(depth)) {
        at++;
        expression(depth);
        expect(CLOSE);
      }
    }

    private void ifStatement(int depth) {
      emit(E_IF, at++);
      inBrackets(depth + 1);
      statement(depth + 1);
      if (accept(K_ELSE)) {
        emit(E_ELSE, 0);
        statement(depth + 1);
      }
    }

    private void loop(int depth, int event) {
      emit(event, at++);
      inBrackets(depth + 1);
      statement(depth + 1);
    }

    private void doStatement(int depth) {
      emit(E_DO, at++);
      statement(depth + 1);
      expect(K_WHILE);
      emit(E_DO_WHILE, 0);
      inBrackets(depth + 1);
      expect(SEMICOLON);
    }

    private void forStatement(int depth) {
      int mark = undoneTop;
      emit(E_FOR, at++);
      if (kind() != OPEN) {
        refuse();
      }
      if (tooDeep(depth + 1)) {
        return;
      }
      at++;
      if (beginsSpecifiers(at)) {
        declaration(depth + 1, false);
      } else {
        expressionUpTo(depth + 1, SEMICOLON);
      }
      emit(E_FOR_FIRST, 0);
      expressionUpTo(depth + 1, SEMICOLON);
      emit(E_FOR_CONDITION, 0);
      expressionUpTo(depth + 1, CLOSE);
      emit(E_FOR_THIRD, 0);
      statement(depth + 1);
      closeScope(mark);
    }

    private void expressionUpTo(int depth, int sign) {
      if (kind() != sign) {
        expression(depth);
      }
      expect(sign);
    }

    private void jump(int depth) {
      int kind = kind();
      int event = kind == K_GOTO ? E_GOTO : kind == K_CONTINUE ? E_CONTINUE : kind == K_BREAK ? E_BREAK : E_RETURN;
      emit(event, at++);
      if (kind == K_GOTO) {
        expect(T_NAME);
      } else if (kind == K_RETURN && kind() != SEMICOLON) {
        expression(depth);
      }
      expect(SEMICOLON);
    }

    // Expressions.

    private void expression(int depth) {
      conditional(depth, true);
      for (int n = 0; n < MANY && kind() == COMMA; n++) {
        emit(E_COMMA_SIGN, 0);
        at++;
        conditional(depth, true);
        emit(E_COMMA, 0);
      }
    }

    private static boolean isAssignment(int kind) {
      return kind >= ASSIGN && kind <= OR_ASSIGN;
    }

    /** A conditional, or an assignment where that may stand. */
    private void conditional(int depth, boolean assigns) {
      boolean unary = operand(depth, true);
      int sign = kind();
      if (assigns && unary && isAssignment(sign)) {
        emit(E_ASSIGN_SIGN, sign);
        at++;
        if (!operandTooDeep(depth + 1)) {
          conditional(depth + 1, true);
          emit(E_ASSIGN, sign);
        }
        return;
      }
      binaries(depth);
      if (kind() != QUESTION) {
        return;
      }
      emit(E_QUESTION, 0);
      at++;
      if (operandTooDeep(depth + 1)) {
        return;
      }
      expression(depth + 1);
      emit(E_COLON, 0);
      expect(COLON);
      if (!operandTooDeep(depth + 1)) {
        conditional(depth + 1, false);
        emit(E_CHOICE, 0);
      }
    }

    /** What follows the first operand of a row of binary operators. */
    private void binaries(int depth) {
      int base = operatorTop;
      for (int n = 0; n < MANY && rankOf(kind()) > 0; n++) {
        int sign = kind();
        reduce(base, rankOf(sign));
        if (operatorTop >= operators.length) {
          refuse();
          return;
        }
        emit(E_SIGN, sign);
        operators[operatorTop++] = sign;
        at++;
        operand(depth, true);
      }
      reduce(base, 0);
    }

    private void reduce(int base, int rank) {
      while (operatorTop > base && rankOf(operators[operatorTop - 1]) >= rank) {
        emit(E_BINARY, operators[--operatorTop]);
      }
    }

    /** A cast or a unary; false if it is a cast. */
    private boolean operand(int depth, boolean castFits) {
      int kind = kind();
      if (kind == OPEN && beginsType(at + 1)) {
        if (tooDeep(depth + 1)) {
          return false;
        }
        at++;
        if (!castFits) {
          refuse();
          return false;
        }
        typeName(depth + 1);
        expect(CLOSE);
        if (!operandTooDeep(depth + 1)) {
          operand(depth + 1, true);
          emit(E_CAST, 0);
        }
        return false;
      }
      if (kind == K_SIZEOF) {
        at++;
        boolean ofType = kind() == OPEN && beginsType(at + 1);
        if (ofType ? tooDeep(depth + 1) : operandTooDeep(depth + 1)) {
          return true;
        }
        if (ofType) {
          at++;
          typeName(depth + 1);
          expect(CLOSE);
          emit(E_SIZEOF_TYPE, 0);
        } else {
          emit(E_SIZEOF, 0);
          operand(depth + 1, false);
          emit(E_SIZEOF_END, 0);
        }
        return true;
      }
      if (!isPrefix(kind)) {
        postfix(depth);
        return true;
      }
      at++;
      if (!operandTooDeep(depth + 1)) {
        operand(depth + 1, kind != INCREASE && kind != DECREASE);
        emit(E_PREFIX, kind);
      }
      return true;
    }

    private void postfix(int depth) {
      primary(depth);
      boolean more = true;
      for (int n = 0; n < MANY && more; n++) {
        int kind = kind();
        if (kind == INCREASE || kind == DECREASE) {
          emit(E_POSTFIX, kind);
          at++;
        } else if (kind == DOT || kind == ARROW) {
          at++;
          emit(kind == DOT ? E_DOT : E_ARROW, at);
          expect(T_NAME);
        } else {
          more = (kind == OPEN || kind == OPEN_INDEX) && !tooDeep(depth + 1);
          if (more) {
            at++;
            emit(kind == OPEN ? E_CALL_SIGN : E_INDEX_SIGN, at - 1);
            bracketed(depth + 1, kind == OPEN);
          }
        }
      }
    }

    private void bracketed(int depth, boolean call) {
      if (!call) {
        expression(depth);
        expect(CLOSE_INDEX);
        emit(E_INDEX, 0);
        return;
      }
      boolean more = kind() != CLOSE;
      for (int n = 0; n < MANY && more && pieces.fault == 0; n++) {
        conditional(depth, true);
        emit(E_ARGUMENT, 0);
        more = accept(COMMA);
      }
      expect(CLOSE);
      emit(E_CALL, 0);
    }

    private void primary(int depth) {
      int kind = kind();
      if (kind == T_NAME && !isTypeName(at)) {
        emit(E_IDENTIFIER, at++);
      } else if (kind == T_INTEGER || kind == T_FLOATING) {
        emit(E_CONSTANT, at++);
      } else if (kind == T_STRING) {
        emit(E_STRING, at++);
      } else if (kind == OPEN) {
        if (!tooDeep(depth + 1)) {
          at++;
          expression(depth + 1);
          expect(CLOSE);
        }
      } else if (kind == K_VA_ARG) {
        at++;
        vaArgument(depth + 1);
      } else {
        refuse();
      }
    }

    private void vaArgument(int depth) {
      if (kind() != OPEN) {
        refuse();
      } else if (!tooDeep(depth)) {
        at++;
        conditional(depth, true);
        emit(E_VA_LIST, 0);
        expect(COMMA);
        typeName(depth);
        expect(CLOSE);
        emit(E_VA_ARG, 0);
      }
    }
  }

  /** The types of a unit. Two types are the same if they have the same number. */
  private static final class Types {
    // Kinds of types; of the types that are no others' makings the number is the kind.
    private static final int POINTER = 11;
    private static final int ARRAY = 12;
    private static final int FUNCTION = 13;
    private static final int STRUCT = 14;
    private static final int UNION = 15;
    /** No size (but also of a function), no member, no length. */
    private static final int NONE = -1;
    private static final int LARGEST = 262144;
    private static final int FILE = 11;

    private int[] kind = new int[256];
    /** Of what it is a pointer or an array; what a function answers. */
    private int[] of = new int[256];
    /** The length of an array (0: not told), how many parameters and whether ... (the lowest bit). */
    private int[] count = new int[256];
    /** The first parameter or member. */
    private int[] first = new int[256];
    private int[] size = new int[256];
    private int[] alignment = new int[256];
    private int[] pointerTo = new int[256];
    private int[] derived = new int[256];
    private int[] nextDerived = new int[256];
    private int total;
    private int[] memberName = new int[64];
    private int[] memberType = new int[64];
    private int[] memberOffset = new int[64];
    /** Of a bit-field how far up it lies, times 256, and its width; else NONE. */
    private int[] memberBits = new int[64];
    private int[] nextMember = new int[64];
    private int members;
    private int[] parameters = new int[128];
    private int parameterTotal;
    private int standardTotal;
    private int standardParameters;

    private Types() {
      addBasic(NONE);
      for (int type = CHAR; type <= DOUBLE; type++) {
        addBasic(type >= INT ? type == LLONG || type == ULLONG || type == DOUBLE ? 8 : 4 : type < SHORT ? 1 : 2);
      }
      newStruct(STRUCT);
    }

    private void addBasic(int bytes) {
      int type = add(total, 0, 0);
      size[type] = bytes;
      alignment[type] = bytes == NONE ? 1 : Math.min(bytes, 4);
    }

    /** What there is now will be there in every unit. */
    private void keepStandard() {
      standardTotal = total;
      standardParameters = parameterTotal;
    }

    private void beginUnit() {
      total = standardTotal;
      parameterTotal = standardParameters;
      members = 0;
      for (int type = 0; type < total; type++) {
        pointerTo[type] = pointerTo[type] < total ? pointerTo[type] : 0;
        int at = derived[type];
        for (int n = 0; n < MANY && at >= total; n++) {
          at = nextDerived[at];
        }
        derived[type] = at;
      }
    }

    private int add(int as, int base, int number) {
      int type = total++;
      kind = grown(kind, type);
      of = grown(of, type);
      count = grown(count, type);
      first = grown(first, type);
      size = grown(size, type);
      alignment = grown(alignment, type);
      pointerTo = grown(pointerTo, type);
      derived = grown(derived, type);
      nextDerived = grown(nextDerived, type);
      kind[type] = as;
      of[type] = base;
      count[type] = number;
      first[type] = NONE;
      size[type] = NONE;
      alignment[type] = 1;
      pointerTo[type] = 0;
      derived[type] = 0;
      return type;
    }

    private int pointer(int to) {
      if (pointerTo[to] == 0) {
        int type = add(POINTER, to, 0);
        size[type] = 4;
        alignment[type] = 4;
        pointerTo[to] = type;
      }
      return pointerTo[to];
    }

    /** An array type; its size may be too large. */
    private int array(int element, int length) {
      int at = derived[element];
      for (int n = 0; n < total && at > 0; n++) {
        if (kind[at] == ARRAY && count[at] == length) {
          return at;
        }
        at = nextDerived[at];
      }
      int type = add(ARRAY, element, length);
      size[type] = length == 0 ? NONE : (int) Math.min((long) length * size[element], Integer.MAX_VALUE);
      alignment[type] = alignment[element];
      derive(element, type);
      return type;
    }

    private void derive(int base, int type) {
      nextDerived[type] = derived[base];
      derived[base] = type;
    }

    private void addParameter(int type) {
      parameters = grown(parameters, parameterTotal);
      parameters[parameterTotal++] = type;
    }

    /** The type of functions with the parameters from a number on. */
    private int function(int answer, int from, int length, boolean rest) {
      int number = length * 2 + (rest ? 1 : 0);
      int at = derived[answer];
      for (int n = 0; n < total && at > 0; n++) {
        if (kind[at] == FUNCTION && count[at] == number && sameParameters(first[at], from, length)) {
          return at;
        }
        at = nextDerived[at];
      }
      int type = add(FUNCTION, answer, number);
      first[type] = from;
      derive(answer, type);
      return type;
    }

    private boolean sameParameters(int a, int b, int length) {
      for (int i = 0; i < length; i++) {
        if (parameters[a + i] != parameters[b + i]) {
          return false;
        }
      }
      return true;
    }

    private int newStruct(int as) {
      return add(as, 0, 0);
    }

    private int addMember(int name, int type, int offset, int bits) {
      int member = members++;
      memberName = grown(memberName, member);
      memberType = grown(memberType, member);
      memberOffset = grown(memberOffset, member);
      memberBits = grown(memberBits, member);
      nextMember = grown(nextMember, member);
      memberName[member] = name;
      memberType[member] = type;
      memberOffset[member] = offset;
      memberBits[member] = bits;
      nextMember[member] = NONE;
      return member;
    }

    private int memberCalled(int struct, int name) {
      int member = first[struct];
      for (int n = 0; n < members && member >= 0; n++) {
        if (memberName[member] == name) {
          return member;
        }
        member = nextMember[member];
      }
      return NONE;
    }

    private int parameterCount(int function) {
      return count[function] >> 1;
    }

    private boolean takesMore(int function) {
      return (count[function] & 1) != 0;
    }

    private boolean isComplete(int type) {
      return size[type] >= 0;
    }

    private boolean isInteger(int type) {
      return type >= CHAR && type <= ULLONG;
    }

    private boolean isArithmetic(int type) {
      return type >= CHAR && type <= DOUBLE;
    }

    private boolean isPointer(int type) {
      return kind[type] == POINTER;
    }

    private boolean isScalar(int type) {
      return isArithmetic(type) || isPointer(type);
    }

    private boolean isRecord(int type) {
      return kind[type] == STRUCT || kind[type] == UNION;
    }

    private boolean isArray(int type) {
      return kind[type] == ARRAY;
    }

    private boolean isFunction(int type) {
      return kind[type] == FUNCTION;
    }

    private boolean isText(int type) {
      return isArray(type) && (of[type] == CHAR || of[type] == UCHAR);
    }

    /** How the machine keeps a value of a scalar type. */
    private int machineKind(int type) {
      return isPointer(type) ? UINT : type;
    }

    private static boolean isReal(int type) {
      return type == FLOAT || type == DOUBLE;
    }

    private static int promoted(int type) {
      return type >= CHAR && type < INT ? INT : type;
    }

    /** The type in which two arithmetic operands are worked on. */
    private static int usual(int a, int b) {
      return Math.max(promoted(a), promoted(b));
    }

    /** Lowest bits of an integer, as a value of an integer type. */
    private static long cut(int type, long value) {
      switch (type) {
        case CHAR: return (byte) value;
        case UCHAR: return value & 255;
        case SHORT: return (short) value;
        case USHORT: return value & 65535;
        case INT: return (int) value;
        case UINT: return value & 4294967295L;
        default: return value;
      }
    }
  }

  /** The identifiers and tags that are declared, with the blocks to which they belong. */
  private static final class Symbols {
    private static final int OBJECT = 1;
    private static final int LOCAL = 2;
    private static final int FUNCTION = 3;
    private static final int TYPEDEF = 4;
    private static final int ENUMERATOR = 5;
    private static final int LIBRARY = 6;
    private static final int TAG = 7;
    /** What stands for an object or function of the unit in a block. */
    private static final int ALIAS = 8;
    private static final int DEFINED = 1;
    private static final int USED = 2;
    private static final int INITIALISED = 4;
    // Names of the library with what they answer and take: v void, i int, u unsigned, l long long, d double,
    // s char *, p void *, f FILE *, e char **, c and x pointers to functions, and . for ...
    private static final String STREAMS =
        "putchar ii putc iif fputc iif puts is fputs isf getchar i getc if fgetc if fgets ssif ungetc iif";
    private static final String FORMATS = "printf is. fprintf ifs. sprintf iss. scanf is. sscanf iss.";
    private static final String TEXTS =
        "strlen us strcpy sss strncpy sssu strcat sss strncat sssu strcmp iss strncmp issu strchr ssi strrchr ssi";
    private static final String BYTES = "strstr sss memcpy pppu memmove pppu memset ppiu memcmp ippu memchr ppiu";
    private static final String LETTERS =
        "isdigit ii isalpha ii isalnum ii isspace ii isupper ii islower ii isxdigit ii isprint ii ispunct ii";
    private static final String NUMBERS =
        "toupper ii tolower ii abs ii labs ii llabs ll atoi is atol is atoll ls strtol isei fabs dd sqrt dd";
    private static final String RUNNING = "floor dd ceil dd exit vi abort v atexit ix qsort vpuuc srand vu rand i";
    private static final String HEAP = "malloc pu calloc puu realloc ppu free vp va_start v va_end v";

    private final Pieces pieces;
    private final Types types;
    private int[] kind = new int[256];
    private int[] name = new int[256];
    private int[] type = new int[256];
    /** Which object, function or name of the library; where a local lies in its frame; for what an alias stands. */
    private int[] index = new int[256];
    private long[] worth = new long[256];
    private int[] outer = new int[256];
    private int[] level = new int[256];
    private int[] flags = new int[256];
    private int count;
    /** By spelling: the innermost identifier, the innermost tag, the object or function of the unit. */
    private int[] heads = new int[1024];
    private int[] tags = new int[1024];
    private int[] units = new int[1024];
    private int[] open = new int[256];
    private int openTop;
    private int[] marks = new int[64];
    private int depth;
    /** What the parameters of a definition declare, for its body. */
    private int[] kept = new int[64];
    private int keptCount;
    private int libraryCount;

    private Symbols(Pieces pieces, Types types) {
      this.pieces = pieces;
      this.types = types;
      count = 1;
      addLibrary(STREAMS);
      addLibrary(FORMATS);
      addLibrary(TEXTS);
      addLibrary(BYTES);
      addLibrary(LETTERS);
      addLibrary(NUMBERS);
      addLibrary(RUNNING);
      addLibrary(HEAP);
      types.keepStandard();
    }

    private void addLibrary(String list) {
      byte[] b = Pieces.bytesOf(list);
      int from = 0;
      for (int at = 0; at < b.length; at++) {
        if (b[at] == ' ') {
          int end = at + 1;
          while (end < b.length && b[end] != ' ') {
            end++;
          }
          int symbol = add(LIBRARY, pieces.spell(b, from, at, Pieces.NAME), signature(b, at + 1, end));
          index[symbol] = libraryCount++;
          at = end;
          from = end + 1;
        }
      }
    }

    private int signature(byte[] b, int from, int to) {
      boolean rest = b[to - 1] == '.';
      int last = rest ? to - 1 : to;
      int first = types.parameterTotal;
      for (int i = from + 1; i < last; i++) {
        int parameter = typeOf(b[i]);
        types.addParameter(parameter);
      }
      return types.function(typeOf(b[from]), first, last - from - 1, rest);
    }

    private int typeOf(int letter) {
      switch (letter) {
        case 'i': return INT;
        case 'u': return UINT;
        case 'l': return LLONG;
        case 'd': return DOUBLE;
        case 's': return types.pointer(CHAR);
        case 'p': return types.pointer(VOID);
        case 'f': return types.pointer(Types.FILE);
        case 'e': return types.pointer(types.pointer(CHAR));
        case 'c': return types.pointer(comparing());
        case 'x': return types.pointer(types.function(VOID, 0, 0, false));
        default: return VOID;
      }
    }

    /** The type of the functions that qsort calls: the first two parameters of memcpy are as theirs. */
    private int comparing() {
      int pointer = types.pointer(VOID);
      for (int i = 0; i + 1 < types.parameterTotal; i++) {
        if (types.parameters[i] == pointer && types.parameters[i + 1] == pointer) {
          return types.function(INT, i, 2, false);
        }
      }
      return VOID;
    }

    private void beginUnit() {
      Arrays.fill(heads, 0);
      Arrays.fill(tags, 0);
      Arrays.fill(units, 0);
      count = libraryCount + 1;
      depth = -1;
      openTop = 0;
      for (int symbol = 1; symbol < count; symbol++) {
        declare(symbol);
      }
      depth = 0;
      declareType(W_SIZE_T, UINT);
      declareType(W_FILE_TYPE, Types.FILE);
      declareType(W_VA_LIST, types.pointer(CHAR));
    }

    private void declareType(int spelling, int meaning) {
      depth = -1;
      declare(add(TYPEDEF, spelling, meaning));
      depth = 0;
    }

    private int add(int as, int spelling, int of) {
      int symbol = count++;
      kind = grown(kind, symbol);
      name = grown(name, symbol);
      type = grown(type, symbol);
      index = grown(index, symbol);
      worth = grown(worth, symbol);
      outer = grown(outer, symbol);
      level = grown(level, symbol);
      flags = grown(flags, symbol);
      kind[symbol] = as;
      name[symbol] = spelling;
      type[symbol] = of;
      index[symbol] = 0;
      worth[symbol] = 0;
      flags[symbol] = 0;
      return symbol;
    }

    /** Makes a symbol known in the present block. */
    private void declare(int symbol) {
      int spelling = name[symbol];
      level[symbol] = depth;
      if (kind[symbol] == TAG) {
        tags = grown(tags, spelling);
        outer[symbol] = tags[spelling];
        tags[spelling] = symbol;
      } else {
        heads = grown(heads, spelling);
        outer[symbol] = heads[spelling];
        heads[spelling] = symbol;
      }
      open = grown(open, openTop);
      open[openTop++] = symbol;
    }

    private int identifier(int spelling) {
      return spelling >= 0 && spelling < heads.length ? heads[spelling] : 0;
    }

    private int tag(int spelling) {
      return spelling >= 0 && spelling < tags.length ? tags[spelling] : 0;
    }

    private int unit(int spelling) {
      return spelling >= 0 && spelling < units.length ? units[spelling] : 0;
    }

    private void setUnit(int spelling, int symbol) {
      units = grown(units, spelling);
      units[spelling] = symbol;
    }

    private boolean isHere(int symbol) {
      return symbol != 0 && level[symbol] == depth;
    }

    /** The object or function for which a symbol stands. */
    private int meant(int symbol) {
      return kind[symbol] == ALIAS ? index[symbol] : symbol;
    }

    private void openBlock() {
      marks = grown(marks, depth);
      marks[depth++] = openTop;
    }

    private void closeBlock() {
      if (depth > 0) {
        depth--;
        while (openTop > marks[depth]) {
          int symbol = open[--openTop];
          if (kind[symbol] == TAG) {
            tags[name[symbol]] = outer[symbol];
          } else {
            heads[name[symbol]] = outer[symbol];
          }
        }
      }
    }

    /** Remembers what the present block has declared. */
    private void keepBlock() {
      keptCount = 0;
      for (int i = depth > 0 ? marks[depth - 1] : openTop; i < openTop; i++) {
        kept = grown(kept, keptCount);
        kept[keptCount++] = open[i];
      }
    }

    private void openKeptBlock() {
      openBlock();
      for (int i = 0; i < keptCount; i++) {
        declare(kept[i]);
      }
    }
  }

  /** A program: its code and what the machine must know of its functions, objects and strings. */
  private static final class Program {
    // What is kept of a function, and of a string.
    private static final int F_STRIDE = 8;
    private static final int F_ENTRY = 0;
    private static final int F_FRAME = 1;
    private static final int F_TYPE = 2;
    private static final int F_ANSWER = 3;
    private static final int F_SIZE = 4;
    private static final int F_PARAMETERS = 5;
    private static final int F_COUNT = 6;
    private static final int S_STRIDE = 3;
    private static final int S_FROM = 0;
    private static final int S_LENGTH = 1;
    private static final int S_ADDRESS = 2;
    // What a function answers.
    private static final int NOTHING = 0;
    private static final int WHOLE = 1;
    private static final int REAL = 2;
    private static final int RECORD = 3;
    // Facts: functions with a body, objects, strings, pieces, the greatest frame, and two types.
    private static final int FUNCTIONS = 0;
    private static final int OBJECTS = 1;
    private static final int STRINGS = 2;
    private static final int PIECES = 3;
    private static final int GREATEST_FRAME = 4;
    private static final int COMPARING = 5;
    private static final int LEAVING = 6;

    private int[] code = new int[512];
    private int codeLength;
    /** Where the code of another line begins, and that line. */
    private int[] lines = new int[128];
    private int lineTop;
    private int line;
    private double[] reals = new double[8];
    private int realCount;
    private int[] functions = new int[8 * F_STRIDE];
    private int functionCount;
    /** Of each parameter where it lies in the frame and its kind; below 0 the size of a struct. */
    private int[] parameters = new int[32];
    private int parameterCount;
    private int[] objects = new int[32];
    private int[] strings = new int[16 * S_STRIDE];
    private int stringCount;
    private byte[] texts = new byte[0];
    private int[] cases = new int[0];
    /** Where the jump stands behind the latest initialiser of the unit, to be led to the next. */
    private int lastInitialiser;
    private int initialFrame;
    private int heapStart;
    private int mainFunction;
    /** What about() tells, and the types of the functions that qsort and atexit call. */
    private final int[] facts = new int[7];

    private Program() {
      emit(Machine.DONE);
      emit(Machine.INITIALISED);
      lastInitialiser = emit(Machine.JUMP, 1) - 1;
    }

    private void put(int word) {
      code = grown(code, codeLength);
      code[codeLength++] = word;
    }

    /** Puts an instruction behind the code; the end of it. */
    private int emit(int operation) {
      if (lineTop == 0 || lines[lineTop - 1] != line) {
        lines = grown(lines, lineTop + 1);
        lines[lineTop++] = codeLength;
        lines[lineTop++] = line;
      }
      put(operation);
      return codeLength;
    }

    private int emit(int operation, int a) {
      emit(operation);
      put(a);
      return codeLength;
    }

    private int emit(int operation, int a, int b) {
      emit(operation);
      put(a);
      put(b);
      return codeLength;
    }

    private int emit(int operation, int a, int b, int c) {
      emit(operation, a, b);
      put(c);
      return codeLength;
    }

    /** Leads the jumps of a chain, each of which has the one before in its place, to here. */
    private void lead(int chain) {
      int at = chain;
      for (int n = 0; n < codeLength && at > 0; n++) {
        int before = code[at];
        code[at] = codeLength;
        at = before;
      }
    }

    /** Drops the code from a place on. */
    private void cutBack(int length) {
      codeLength = length;
      while (lineTop > 0 && lines[lineTop - 2] >= length) {
        lineTop -= 2;
      }
    }

    private int lineAt(int place) {
      int i = lineTop - 2;
      while (i > 0 && lines[i] > place) {
        i -= 2;
      }
      return i >= 0 ? lines[i + 1] : 0;
    }

    private int addReal(double worth) {
      reals = grown(reals, realCount);
      reals[realCount] = worth;
      return realCount++;
    }

    private int addString(int from, int length) {
      int at = stringCount * S_STRIDE;
      strings = grown(strings, at + S_STRIDE);
      strings[at + S_FROM] = from;
      strings[at + S_LENGTH] = length;
      return stringCount++;
    }

    private int addFunction(int type) {
      int at = functionCount * F_STRIDE;
      functions = grown(functions, at + F_STRIDE);
      functions[at + F_TYPE] = type;
      functions[at + F_ENTRY] = -1;
      return functionCount++;
    }

    private void addParameter(int offset, int kind) {
      parameters = grown(parameters, 2 * parameterCount + 1);
      parameters[2 * parameterCount] = offset;
      parameters[2 * parameterCount + 1] = kind;
      parameterCount++;
    }

    /** What follows is done before main, behind what else is; it ends with endInitialiser. */
    private void beginInitialiser() {
      code[lastInitialiser] = codeLength;
    }

    private void endInitialiser() {
      lastInitialiser = emit(Machine.JUMP, 1) - 1;
    }
  }

  /** Looks at the expressions of a unit, as their events come, and makes their code. */
  private static final class Expressions {
    // What is kept of an operand.
    private static final int STRIDE = 8;
    private static final int TYPE = 0;
    private static final int KIND = 1;
    private static final int INFO = 2;
    private static final int BITS = 3;
    private static final int STATE = 4;
    private static final int ROOM = 5;
    private static final int START = 6;
    private static final int MOST_OPERANDS = 2048;
    // Its kind: a value on the machine's stack; the address there of what is an lvalue, or of what can be read only,
    // or of the unit of a bit-field that is one or the other; a function's address; nothing at all.
    private static final int VALUE = 0;
    private static final int PLACE = 1;
    private static final int READABLE = 2;
    private static final int BIT_PLACE = 3;
    private static final int READABLE_BITS = 4;
    private static final int FUNCTION = 5;
    private static final int LIBRARY = 6;
    private static final int NOTHING = 7;
    // Its state: part of no constant expression, a constant, one that has no worth, or 0 made a void *.
    private static final int VARIABLE = 0;
    private static final int CONSTANT = 1;
    private static final int WORTHLESS = 2;
    private static final int NULL = 3;
    private static final int NONE = -1;
    private static final int MOST_ROOM = 130;
    // Of a call: the function's type, its number in the library (or NONE), arguments so far, their room, the place.
    private static final int CALL = 5;

    private final Pieces pieces;
    private final Parser parser;
    private final Types types;
    private final Symbols symbols;
    private Program program = new Program();
    private final int[] operands = new int[MOST_OPERANDS * STRIDE];
    private final long[] worths = new long[MOST_OPERANDS];
    private int top;
    /** Jumps to be led, calls and types whose operands come, the innermost last. */
    private int[] stack = new int[1024];
    private int stackTop;
    private int unworked;
    private boolean inStatic;
    /** The last parameter of a function with ..., else 0. */
    private int lastParameter;
    /** Answers that are structs: where the code has their place (or NONE), and their type. */
    private int[] answers = new int[32];
    private int answerTop;
    private int[] firstAnswers = new int[32];
    private int firstAnswerTop;
    private boolean inFunction;
    /** The line for a fault, and that of the first whole expression without room; NONE if there is none. */
    private int where;
    private int roomless;

    private Expressions(Pieces pieces, Parser parser, Types types, Symbols symbols) {
      this.pieces = pieces;
      this.parser = parser;
      this.types = types;
      this.symbols = symbols;
    }

    private void beginUnit(Program made) {
      program = made;
      top = 0;
      stackTop = 0;
      unworked = 0;
      inStatic = false;
      inFunction = false;
      lastParameter = 0;
      answerTop = 0;
      firstAnswerTop = 0;
      roomless = NONE;
    }

    private void fault() {
      pieces.fail(4, where);
    }

    private int get(int operand, int field) {
      return operand < 0 ? 0 : operands[operand * STRIDE + field];
    }

    private void set(int operand, int field, int what) {
      if (operand >= 0) {
        operands[operand * STRIDE + field] = what;
      }
    }

    /** The type of the latest operand. */
    private int type() {
      return get(top - 1, TYPE);
    }

    private int kind() {
      return get(top - 1, KIND);
    }

    private void push(int type, int kind, int start) {
      if (top >= MOST_OPERANDS) {
        pieces.fail(5, where);
        return;
      }
      top++;
      set(top - 1, TYPE, type);
      set(top - 1, START, start);
      become(type, kind);
      set(top - 1, ROOM, 1);
    }

    /** The latest operand is something else now, which is no constant. */
    private void become(int type, int kind) {
      set(top - 1, TYPE, type);
      set(top - 1, KIND, kind);
      set(top - 1, INFO, NONE);
      set(top - 1, BITS, 0);
      set(top - 1, STATE, VARIABLE);
    }

    private void pushConstant(int type, long worth) {
      int start = program.codeLength;
      if (worth == (int) worth) {
        program.emit(Machine.LITERAL, (int) worth);
      } else {
        program.emit(Machine.WIDE, (int) worth, (int) (worth >> 32));
      }
      push(type, VALUE, start);
      set(top - 1, STATE, CONSTANT);
      worths[top - 1] = worth;
    }

    private void keep(int a) {
      stack = grown(stack, stackTop);
      stack[stackTop++] = a;
    }

    private int kept() {
      return stackTop > 0 ? stack[--stackTop] : 0;
    }

    /** Does one event of an expression. */
    private void event(int event, int n) {
      switch (event) {
        case E_IDENTIFIER: identifier(n); return;
        case E_CONSTANT: constant(n); return;
        case E_STRING: string(n); return;
        case E_SIGN: sign(n); return;
        case E_BINARY: binary(n); return;
        case E_COMMA_SIGN: commaSign(); return;
        case E_COMMA: comma(); return;
        case E_QUESTION: question(); return;
        case E_COLON: colon(); return;
        case E_CHOICE: choice(); return;
        case E_ASSIGN_SIGN: assignSign(n); return;
        case E_ASSIGN: assign(n); return;
        case E_PREFIX: prefix(n); return;
        case E_POSTFIX: step(n, true); return;
        case E_INDEX_SIGN: value(); return;
        case E_INDEX: index(); return;
        case E_CALL_SIGN: callSign(); return;
        case E_ARGUMENT: argument(); return;
        case E_CALL: call(); return;
        case E_DOT: dot(n); return;
        case E_ARROW: arrow(n); return;
        case E_CAST: cast(); return;
        case E_SIZEOF: unworked++; return;
        case E_SIZEOF_END: sizeofEnd(); return;
        case E_SIZEOF_TYPE: sizeofType(); return;
        case E_VA_LIST: variableList(); return;
        case E_VA_ARG: variableArgument(); return;
        default: fault();
      }
    }

    // Primaries.

    private void identifier(int token) {
      int symbol = symbols.meant(symbols.identifier(parser.nameAt(token)));
      int start = program.codeLength;
      int type = symbols.type[symbol];
      int index = symbols.index[symbol];
      symbols.flags[symbol] |= Symbols.USED;
      switch (symbol == 0 ? 0 : symbols.kind[symbol]) {
        case Symbols.ENUMERATOR:
          pushConstant(INT, symbols.worth[symbol]);
          return;
        case Symbols.OBJECT:
          program.emit(Machine.OBJECT, index, 0);
          push(type, PLACE, start);
          return;
        case Symbols.LOCAL:
          if (inStatic && unworked == 0) {
            fault();
          }
          program.emit(Machine.LOCAL, index);
          push(type, PLACE, start);
          set(top - 1, INFO, symbol);
          return;
        case Symbols.FUNCTION:
          program.emit(Machine.FUNCTION, index);
          push(type, FUNCTION, start);
          set(top - 1, INFO, symbol);
          return;
        case Symbols.LIBRARY:
          push(type, LIBRARY, start);
          set(top - 1, INFO, index);
          if (parser.kindAt(token + 1) != OPEN) {
            fault();
          }
          return;
        default:
          fault();
          push(INT, VALUE, start);
      }
    }

    private void constant(int token) {
      int type = parser.kinds[token] >> 8;
      long worth = parser.values[token];
      if (!Types.isReal(type)) {
        pushConstant(type, worth);
        return;
      }
      int start = program.codeLength;
      program.emit(Machine.REAL, program.addReal(Machine.realOf(worth)));
      push(type, VALUE, start);
    }

    private void string(int token) {
      int from = (int) parser.values[token];
      int length = (int) (parser.values[token] >>> 32);
      int start = program.codeLength;
      int string = program.addString(from, length);
      program.emit(Machine.STRING, string);
      push(types.array(CHAR, length + 1), PLACE, start);
      set(top - 1, INFO, -2 - string);
    }

    /** The string that the latest operand is and nothing else; NONE if it is something else. */
    private int bareString() {
      int info = get(top - 1, INFO);
      return kind() == PLACE && info <= -2 ? -2 - info : NONE;
    }

    // Values and their conversions.

    /** What an operand means where its value is asked for. */
    private void value() {
      int type = type();
      switch (kind()) {
        case PLACE: case READABLE:
          placeValue(type);
          return;
        case BIT_PLACE: case READABLE_BITS:
          int bits = get(top - 1, BITS);
          boolean unsigned = type == UINT && (bits & 255) == 32;
          program.emit(Machine.LOAD_BITS, bits, type);
          become(unsigned ? UINT : INT, VALUE);
          return;
        case FUNCTION:
          become(types.pointer(type), VALUE);
          return;
        case LIBRARY: case NOTHING:
          fault();
          return;
        default:
          return;
      }
    }

    private void placeValue(int type) {
      if (types.isArray(type)) {
        become(types.pointer(types.of[type]), VALUE);
      } else if (types.isScalar(type)) {
        program.emit(Machine.LOAD, types.machineKind(type));
        become(type, VALUE);
      } else if (types.isComplete(type)) {
        become(type, READABLE);
      } else {
        fault();
      }
    }

    private boolean isNull(int operand) {
      int state = get(operand, STATE);
      return state == NULL || state == CONSTANT && worths[operand] == 0;
    }

    /** A value that is arithmetic or a pointer. */
    private void scalar() {
      value();
      if (!types.isScalar(type())) {
        fault();
      }
    }

    /** A scalar, of which only matters whether it is 0. */
    private void truth() {
      scalar();
      program.emit(Types.isReal(type()) ? Machine.TRUTH_REAL : Machine.TRUTH);
    }

    /** Casts what lies on the machine's stack, or what lies below that. */
    private void convert(int from, int to, boolean below) {
      int f = types.machineKind(from);
      int t = types.machineKind(to);
      if (Types.isReal(t)) {
        if (!Types.isReal(f)) {
          program.emit(below ? Machine.TO_REAL_BELOW : Machine.TO_REAL, f == ULLONG ? 1 : 0, t);
        } else if (t == FLOAT && f == DOUBLE) {
          program.emit(Machine.ROUND);
        }
      } else if (Types.isReal(f)) {
        program.emit(Machine.TO_WHOLE, t);
      } else if (t < LLONG && f != t && !(t == INT && f < INT)) {
        program.emit(below ? Machine.CAST_BELOW : Machine.CAST, t);
      }
    }

    private boolean isVoidPointer(int type) {
      return types.isPointer(type) && types.of[type] == VOID;
    }

    private boolean assignable(int to, int operand) {
      int from = get(operand, TYPE);
      if (get(operand, KIND) == NOTHING) {
        return false;
      }
      if (types.isArithmetic(to)) {
        return types.isArithmetic(from);
      }
      if (types.isPointer(to)) {
        return from == to || isNull(operand)
            || types.isPointer(from) && (isVoidPointer(to) || isVoidPointer(from));
      }
      return types.isRecord(to) && from == to;
    }

    /** The latest operand as a value of a type to which it must be assignable. */
    private void valueFor(int type) {
      value();
      if (!assignable(type, top - 1)) {
        fault();
      } else if (types.isScalar(type)) {
        convert(type(), type, false);
      }
    }

    private void raiseRoom(int operand, int room) {
      set(operand, ROOM, Math.max(get(operand, ROOM), room));
    }

    // Signs between two operands.

    private void sign(int sign) {
      if (sign == AND_AND || sign == OR_OR) {
        truth();
        keep(program.emit(sign == AND_AND ? Machine.AND : Machine.OR, 0) - 1);
      } else {
        value();
      }
    }

    private void binary(int sign) {
      if (sign == AND_AND || sign == OR_OR) {
        logical(sign);
        return;
      }
      value();
      int left = top - 2;
      int a = get(left, TYPE);
      int b = type();
      int room = Math.max(get(left, ROOM), get(top - 1, ROOM) + 1);
      if (types.isArithmetic(a) && types.isArithmetic(b)) {
        arithmetic(sign, a, b);
      } else if (rankOf(sign) == 9) {
        sum(sign, a, b);
      } else if (rankOf(sign) == 7 || rankOf(sign) == 6) {
        comparePointers(sign, a, b);
      } else {
        fault();
      }
      top--;
      set(left, ROOM, room);
    }

    private void logical(int sign) {
      truth();
      program.lead(kept());
      int left = top - 2;
      int room = Math.max(get(left, ROOM), get(top - 1, ROOM));
      int state = get(left, STATE);
      long worth = 0;
      if (!types.isInteger(get(left, TYPE)) || !types.isInteger(type()) || get(top - 1, STATE) == VARIABLE) {
        state = VARIABLE;
      } else if (state == CONSTANT) {
        boolean first = worths[left] != 0;
        boolean decided = first == (sign == OR_OR);
        state = decided ? CONSTANT : get(top - 1, STATE);
        worth = (decided ? first : worths[top - 1] != 0) ? 1 : 0;
      }
      top--;
      become(INT, VALUE);
      set(left, STATE, state);
      set(left, ROOM, room);
      worths[left] = worth;
    }

    private static boolean isShift(int sign) {
      return sign == SHIFT_LEFT || sign == SHIFT_RIGHT;
    }

    private static boolean wantsIntegers(int sign) {
      return isShift(sign) || sign == PERCENT || sign == AMPERSAND || sign == CARET || sign == BAR;
    }

    private static boolean compares(int sign) {
      return rankOf(sign) == 7 || rankOf(sign) == 6;
    }

    /** Two arithmetic values lie on the machine's stack: works on them; the type in which it does. */
    private int arithmeticCode(int sign, int a, int b) {
      if (wantsIntegers(sign) && !(types.isInteger(a) && types.isInteger(b))) {
        fault();
      }
      int type = isShift(sign) ? Types.promoted(a) : Types.usual(a, b);
      convert(a, type, true);
      convert(b, isShift(sign) ? Types.promoted(b) : type, false);
      program.emit(Types.isReal(type) ? Machine.REALS : Machine.INTEGERS, sign, type);
      return type;
    }

    private void arithmetic(int sign, int a, int b) {
      int left = top - 2;
      int right = top - 1;
      int type = arithmeticCode(sign, a, b);
      int state = fold(left, right);
      long x = Types.cut(type, worths[left]);
      long y = isShift(sign) ? worths[right] : Types.cut(type, worths[right]);
      if (state == CONSTANT && Machine.trapOf(sign, type, y) != 0) {
        state = WORTHLESS;
      }
      top--;
      become(compares(sign) ? INT : type, VALUE);
      top++;
      set(left, STATE, state);
      worths[left] = state == CONSTANT ? Machine.worked(sign, type, x, y) : 0;
    }

    /** The state of what is made of two operands. */
    private int fold(int left, int right) {
      int a = get(left, STATE);
      int b = get(right, STATE);
      if (!types.isInteger(get(left, TYPE)) || !types.isInteger(get(right, TYPE)) || a == VARIABLE || b == VARIABLE) {
        return VARIABLE;
      }
      return a == WORTHLESS || b == WORTHLESS ? WORTHLESS : CONSTANT;
    }

    /** The size of what a pointer points to, which must be complete. */
    private int step(int pointer) {
      int to = types.of[pointer];
      if (!types.isComplete(to)) {
        fault();
        return 1;
      }
      return types.size[to];
    }

    private void sum(int sign, int a, int b) {
      int type = a;
      if (types.isPointer(a) && types.isInteger(b)) {
        program.emit(sign == PLUS ? Machine.POINTER_ADD : Machine.POINTER_SUBTRACT, step(a));
      } else if (sign == PLUS && types.isInteger(a) && types.isPointer(b)) {
        program.emit(Machine.ADD_POINTER, step(b));
        type = b;
      } else if (sign == MINUS && types.isPointer(a) && a == b) {
        program.emit(Machine.DIFFERENCE, step(a));
        type = INT;
      } else {
        fault();
      }
      top--;
      become(type, VALUE);
      top++;
    }

    private void comparePointers(int sign, int a, int b) {
      boolean right = types.isPointer(a) && types.isPointer(b)
          && (a == b || isVoidPointer(a) || isVoidPointer(b))
          || types.isPointer(a) && isNull(top - 1) || types.isPointer(b) && isNull(top - 2);
      if (!right) {
        fault();
      }
      program.emit(Machine.INTEGERS, sign, UINT);
      top--;
      become(INT, VALUE);
      top++;
    }

    private void commaSign() {
      if (kind() != NOTHING) {
        value();
        program.emit(Machine.POP);
      }
    }

    private void comma() {
      if (kind() != NOTHING) {
        value();
      }
      int left = top - 2;
      int room = Math.max(get(left, ROOM), get(top - 1, ROOM));
      int type = type();
      int kind = kind();
      top--;
      become(type, kind);
      set(left, ROOM, room);
    }

    private void question() {
      truth();
      keep(program.emit(Machine.JUMP_FALSE, 0) - 1);
    }

    /** Behind the second part there is room for its conversion to the type that the third part makes known. */
    private void colon() {
      if (kind() != NOTHING) {
        value();
      }
      int slot = program.emit(Machine.NOTHING) - 1;
      program.emit(Machine.NOTHING);
      program.emit(Machine.NOTHING);
      int end = program.emit(Machine.JUMP, 0) - 1;
      program.lead(kept());
      keep(slot);
      keep(end);
    }

    private void choice() {
      if (kind() != NOTHING) {
        value();
      }
      int end = kept();
      int slot = kept();
      int condition = top - 3;
      int a = get(top - 2, TYPE);
      int b = type();
      int type = choiceType(a, b);
      if (types.isArithmetic(type)) {
        convert(b, type, false);
        convertInSlot(a, type, slot);
      }
      program.lead(end);
      int room = Math.max(get(condition, ROOM), Math.max(get(top - 2, ROOM), get(top - 1, ROOM)));
      int state = choiceState(type);
      int chosen = worths[condition] != 0 ? top - 2 : top - 1;
      int kind = kind();
      top -= 2;
      become(type, kind);
      set(condition, ROOM, room);
      set(condition, STATE, state);
      worths[condition] = state == CONSTANT ? Types.cut(type, worths[chosen]) : 0;
    }

    private int choiceType(int a, int b) {
      boolean nothing = get(top - 2, KIND) == NOTHING;
      if (nothing || kind() == NOTHING) {
        if (nothing != (kind() == NOTHING)) {
          fault();
        }
        return VOID;
      }
      if (types.isArithmetic(a) && types.isArithmetic(b)) {
        return Types.usual(a, b);
      }
      if (a == b) {
        return a;
      }
      if (types.isPointer(a) && isNull(top - 1)) {
        return a;
      }
      if (types.isPointer(b) && isNull(top - 2)) {
        return b;
      }
      if (!types.isPointer(a) || !types.isPointer(b) || !isVoidPointer(a) && !isVoidPointer(b)) {
        fault();
      }
      return types.pointer(VOID);
    }

    private int choiceState(int type) {
      int condition = get(top - 3, STATE);
      if (condition == VARIABLE || condition == NULL || !types.isInteger(type)
          || get(top - 2, STATE) == VARIABLE || get(top - 1, STATE) == VARIABLE) {
        return VARIABLE;
      }
      return condition == WORTHLESS ? WORTHLESS : get(worths[top - 3] != 0 ? top - 2 : top - 1, STATE);
    }

    private void convertInSlot(int from, int to, int slot) {
      int end = program.codeLength;
      convert(from, to, false);
      for (int i = 0; end + i < program.codeLength && i < 3; i++) {
        program.code[slot + i] = program.code[end + i];
      }
      program.cutBack(end);
    }

    // Assignments.

    /** The latest operand must be an lvalue that may be assigned to. */
    private void assignPlace() {
      int kind = kind();
      boolean right = kind == BIT_PLACE
          || kind == PLACE && !types.isArray(type()) && types.isComplete(type());
      if (!right) {
        fault();
      }
    }

    private void assignSign(int sign) {
      assignPlace();
      if (sign == ASSIGN || pieces.fault != 0) {
        return;
      }
      if (!types.isScalar(type())) {
        fault();
        return;
      }
      program.emit(Machine.COPY_TOP);
      if (kind() == BIT_PLACE) {
        program.emit(Machine.LOAD_BITS, get(top - 1, BITS), type());
      } else {
        program.emit(Machine.LOAD, types.machineKind(type()));
      }
    }

    private void assign(int sign) {
      int left = top - 2;
      int type = get(left, TYPE);
      int room = Math.max(get(left, ROOM), get(top - 1, ROOM) + 1);
      if (sign == ASSIGN) {
        valueFor(type);
      } else {
        value();
        compound(binaryOf(sign), left);
      }
      if (types.isRecord(type)) {
        program.emit(Machine.COPY, types.size[type]);
      } else if (get(left, KIND) == BIT_PLACE) {
        program.emit(Machine.STORE_BITS, get(left, BITS), type);
      } else {
        program.emit(Machine.STORE, types.machineKind(type));
      }
      top--;
      become(type, types.isRecord(type) ? READABLE : VALUE);
      set(left, ROOM, room);
    }

    private static int binaryOf(int sign) {
      switch (sign) {
        case STAR_ASSIGN: return STAR;
        case SLASH_ASSIGN: return SLASH;
        case PERCENT_ASSIGN: return PERCENT;
        case PLUS_ASSIGN: return PLUS;
        case MINUS_ASSIGN: return MINUS;
        case LEFT_ASSIGN: return SHIFT_LEFT;
        case RIGHT_ASSIGN: return SHIFT_RIGHT;
        case AND_ASSIGN: return AMPERSAND;
        case XOR_ASSIGN: return CARET;
        default: return BAR;
      }
    }

    /** The address, the value there and the right side lie on the machine's stack. */
    private void compound(int sign, int left) {
      int a = get(left, TYPE);
      int b = type();
      if (get(left, KIND) == BIT_PLACE) {
        a = a == UINT && (get(left, BITS) & 255) < 32 ? INT : a;
      }
      if (types.isArithmetic(a) && types.isArithmetic(b)) {
        int type = arithmeticCode(sign, a, b);
        convert(type, get(left, TYPE), false);
      } else if (types.isPointer(a) && types.isInteger(b) && rankOf(sign) == 9) {
        program.emit(sign == PLUS ? Machine.POINTER_ADD : Machine.POINTER_SUBTRACT, step(a));
      } else {
        fault();
      }
    }

    // Signs before and behind an operand.

    private void prefix(int sign) {
      switch (sign) {
        case INCREASE: case DECREASE:
          step(sign, false);
          return;
        case AMPERSAND:
          address();
          return;
        case STAR:
          value();
          indirect();
          return;
        case NOT:
          not();
          return;
        default:
          unary(sign);
      }
    }

    private void unary(int sign) {
      value();
      int from = type();
      if (sign == TILDE ? !types.isInteger(from) : !types.isArithmetic(from)) {
        fault();
        return;
      }
      int type = Types.promoted(from);
      int state = get(top - 1, STATE);
      if (sign == MINUS) {
        program.emit(Types.isReal(type) ? Machine.NEGATE_REAL : Machine.NEGATE, type);
      } else if (sign == TILDE) {
        program.emit(Machine.COMPLEMENT, type);
      }
      long worth = worths[top - 1];
      become(type, VALUE);
      if (types.isInteger(type)) {
        set(top - 1, STATE, state);
        worths[top - 1] = Types.cut(type, sign == MINUS ? -worth : sign == TILDE ? ~worth : worth);
      }
    }

    private void not() {
      scalar();
      int state = types.isInteger(type()) ? get(top - 1, STATE) : VARIABLE;
      long worth = worths[top - 1];
      program.emit(Types.isReal(type()) ? Machine.TRUTH_REAL : Machine.TRUTH);
      program.emit(Machine.NOT_TRUE);
      become(INT, VALUE);
      set(top - 1, STATE, state);
      worths[top - 1] = worth == 0 ? 1 : 0;
    }

    private void address() {
      if (kind() != PLACE && kind() != FUNCTION) {
        fault();
      }
      become(types.pointer(type()), VALUE);
    }

    /** The latest operand, a pointer, becomes what it points to. */
    private void indirect() {
      int type = type();
      if (!types.isPointer(type)) {
        fault();
        return;
      }
      int to = types.of[type];
      if (types.isFunction(to)) {
        become(to, FUNCTION);
      } else {
        step(type);
        become(to, PLACE);
      }
    }

    private void step(int sign, boolean behind) {
      int type = type();
      assignPlace();
      if (!types.isScalar(type) || pieces.fault != 0) {
        fault();
        return;
      }
      int by = types.isPointer(type) ? step(type) : 1;
      by = sign == INCREASE ? by : -by;
      if (kind() == BIT_PLACE) {
        program.emit(Machine.CHANGE_BITS, get(top - 1, BITS), type, behind ? by * 2 + 1 : by * 2);
      } else {
        program.emit(Machine.CHANGE, types.machineKind(type), by, behind ? 1 : 0);
      }
      become(type, VALUE);
    }

    private void index() {
      value();
      int left = top - 2;
      int a = get(left, TYPE);
      int b = type();
      int room = Math.max(get(left, ROOM), get(top - 1, ROOM) + 1);
      boolean leftPoints = types.isPointer(a) && types.isInteger(b);
      if (!leftPoints && !(types.isInteger(a) && types.isPointer(b))) {
        fault();
        return;
      }
      int pointer = leftPoints ? a : b;
      program.emit(leftPoints ? Machine.POINTER_ADD : Machine.ADD_POINTER, step(pointer));
      top--;
      become(types.of[pointer], PLACE);
      set(left, ROOM, room);
    }

    private void arrow(int token) {
      value();
      if (!types.isPointer(type()) || !types.isRecord(types.of[type()])) {
        fault();
        return;
      }
      become(types.of[type()], PLACE);
      dot(token);
    }

    private void dot(int token) {
      int struct = type();
      int kind = kind();
      boolean lvalue = kind == PLACE;
      boolean right = types.isRecord(struct) && (lvalue || kind == READABLE) && types.isComplete(struct);
      int member = right ? types.memberCalled(struct, parser.nameAt(token)) : Types.NONE;
      if (member < 0) {
        fault();
        return;
      }
      if (types.memberOffset[member] > 0) {
        program.emit(Machine.OFFSET, types.memberOffset[member]);
      }
      int bits = types.memberBits[member];
      boolean field = bits != Types.NONE;
      become(types.memberType[member], field ? lvalue ? BIT_PLACE : READABLE_BITS : lvalue ? PLACE : READABLE);
      set(top - 1, BITS, field ? bits : 0);
    }

    private void cast() {
      int type = kept();
      if (type == VOID) {
        commaSign();
        become(VOID, NOTHING);
        return;
      }
      value();
      int from = type();
      boolean mixed = types.isPointer(type) && Types.isReal(from) || Types.isReal(type) && types.isPointer(from);
      if (!types.isScalar(type) || !types.isScalar(from) || mixed || pieces.fault != 0) {
        fault();
        return;
      }
      int state = types.isInteger(from) ? get(top - 1, STATE) : VARIABLE;
      boolean isNull = state == CONSTANT && worths[top - 1] == 0 && isVoidPointer(type);
      convert(from, type, false);
      become(type, VALUE);
      if (types.isInteger(type)) {
        set(top - 1, STATE, state);
        worths[top - 1] = Types.cut(type, worths[top - 1]);
      } else if (isNull) {
        set(top - 1, STATE, NULL);
      }
    }

    private void sizeofEnd() {
      unworked--;
      int kind = kind();
      int type = type();
      int start = get(top - 1, START);
      if (kind == BIT_PLACE || kind == READABLE_BITS || kind == NOTHING || kind == LIBRARY || !types.isComplete(type)) {
        fault();
        return;
      }
      dropCode(start);
      top--;
      pushConstant(UINT, types.size[type]);
    }

    private void sizeofType() {
      int type = kept();
      if (!types.isComplete(type)) {
        fault();
      }
      pushConstant(UINT, types.size[type]);
    }

    /** Drops the code from a place on, and the places of answers in it. */
    private void dropCode(int from) {
      program.cutBack(from);
      for (int i = 0; i < answerTop; i += 2) {
        answers[i] = answers[i] >= from ? NONE : answers[i];
      }
      for (int i = 0; i < firstAnswerTop; i += 2) {
        firstAnswers[i] = firstAnswers[i] >= from ? NONE : firstAnswers[i];
      }
    }

    // Calls.

    private void callSign() {
      int kind = kind();
      int library = kind == LIBRARY ? get(top - 1, INFO) : NONE;
      boolean direct = kind == LIBRARY || kind == FUNCTION && get(top - 1, INFO) > 0;
      int type = type();
      if (kind != LIBRARY && kind != FUNCTION) {
        value();
        type = types.isPointer(type()) ? types.of[type()] : VOID;
      }
      int answer = types.isFunction(type) ? types.of[type] : VOID;
      if (!types.isFunction(type) || answer != VOID && !types.isComplete(answer)) {
        fault();
        return;
      }
      if (!direct) {
        program.emit(Machine.CHECK_CALL, type);
      }
      keep(type);
      keep(library);
      keep(0);
      keep(0);
      keep(types.isRecord(answer) ? addAnswer(answer) : NONE);
    }

    private int addAnswer(int type) {
      if (inStatic || !inFunction) {
        firstAnswers = grown(firstAnswers, firstAnswerTop + 1);
        firstAnswers[firstAnswerTop + 1] = type;
        firstAnswerTop += 2;
        return firstAnswerTop - 2;
      }
      answers = grown(answers, answerTop + 1);
      answers[answerTop + 1] = type;
      answerTop += 2;
      return answerTop - 2;
    }

    private void argument() {
      int call = stackTop - CALL;
      if (call < 0) {
        fault();
        return;
      }
      int type = stack[call];
      int number = stack[call + 2]++;
      int library = stack[call + 1];
      stack[call + 3] = Math.max(stack[call + 3], number + 1 + get(top - 1, ROOM));
      if (library >= Library.VA_START) {
        variableCallArgument(number, library == Library.VA_START);
      } else if (number < types.parameterCount(type)) {
        valueFor(types.parameters[types.first[type] + number]);
      } else if (types.takesMore(type)) {
        scalar();
        int from = type();
        int to = from == FLOAT ? DOUBLE : Types.promoted(from);
        convert(from, to, false);
        if (to == DOUBLE) {
          program.emit(Machine.AS_BITS);
        } else if (to != LLONG && to != ULLONG) {
          program.emit(Machine.CAST, UINT);
        }
      } else {
        fault();
      }
      top--;
    }

    private void call() {
      int place = kept();
      int room = kept();
      int count = kept();
      int library = kept();
      int type = kept();
      int answer = types.of[type];
      if (library >= Library.VA_START) {
        variableCall(count, library == Library.VA_START);
      } else {
        int fixed = types.parameterCount(type);
        if (count < fixed) {
          fault();
        }
        if (library != NONE) {
          program.emit(Machine.LIBRARY, library, fixed, count - fixed);
          if (library == Library.QSORT) {
            program.emit(Machine.SORT);
          }
        } else {
          callCode(fixed, count - fixed, place);
        }
      }
      room = Math.max(room, get(top - 1, ROOM));
      become(answer, answer == VOID ? NOTHING : types.isRecord(answer) ? READABLE : VALUE);
      set(top - 1, ROOM, room);
    }

    private void callCode(int fixed, int more, int place) {
      int end = program.emit(Machine.CALL, fixed, more, 0);
      if (place >= 0) {
        if (inStatic || !inFunction) {
          firstAnswers[place] = end - 1;
        } else {
          answers[place] = end - 1;
        }
      }
    }

    private void variableCallArgument(int number, boolean start) {
      if (number == 0) {
        variableList();
      } else if (number == 1 && start) {
        boolean last = kind() == PLACE && get(top - 1, INFO) == lastParameter && lastParameter > 0;
        if (!last) {
          fault();
        }
        dropCode(get(top - 1, START));
      }
    }

    private void variableCall(int count, boolean start) {
      if (count != (start ? 2 : 1)) {
        fault();
      }
      program.emit(start ? Machine.START_LIST : Machine.POP);
    }

    /** The latest operand must be a variable for a list of arguments, in a function that has one. */
    private void variableList() {
      if (kind() != PLACE || type() != types.pointer(CHAR) || lastParameter == 0) {
        fault();
      }
    }

    private void variableArgument() {
      int type = kept();
      boolean right = types.isPointer(type) || type >= INT && type <= ULLONG || type == DOUBLE;
      if (!right) {
        fault();
        return;
      }
      program.emit(Machine.NEXT_ARGUMENT, types.machineKind(type));
      become(type, VALUE);
    }

    // Whole expressions.

    /** Looks at the room of a whole expression, which is the latest operand. */
    private void checkRoom() {
      if (top > 0 && get(top - 1, ROOM) > MOST_ROOM && roomless == NONE) {
        roomless = where;
      }
    }

    /** What had no room is told when nothing else is wrong with its statement or declaration. */
    private void tellRoom() {
      if (roomless != NONE) {
        pieces.fail(5, roomless);
      }
    }

    /** The latest operand, with its code, is used up as a constant expression. */
    private long constantWorth() {
      if (pieces.fault != 0 || top == 0) {
        return 0;
      }
      value();
      checkRoom();
      int operand = top - 1;
      if (!types.isInteger(type()) || get(operand, STATE) != CONSTANT || kind() != VALUE) {
        fault();
      }
      dropCode(get(operand, START));
      top--;
      return worths[operand];
    }

    /** The latest operand is gone, with its code. */
    private void dropOperand() {
      if (top > 0) {
        dropCode(get(top - 1, START));
        top--;
      }
    }

    /** The latest operand is used up; its value is not wanted. */
    private void dropValue() {
      if (pieces.fault == 0 && top > 0) {
        commaSign();
        checkRoom();
        top--;
      }
    }

    /** The latest operand is used up as a condition. */
    private void useCondition() {
      if (pieces.fault == 0 && top > 0) {
        truth();
        checkRoom();
        top--;
      }
    }

    /** The latest operand is used up as a value of a type to which it must be assignable. */
    private void useFor(int type) {
      if (pieces.fault == 0 && top > 0) {
        valueFor(type);
        checkRoom();
        top--;
      }
    }
  }

  /** Looks at the declarations and statements of a unit, in the order of the text, and makes its program. */
  private static final class Checker {
    private static final int NONE = -1;
    private static final int LARGEST = 262144;
    private static final int LAST_START = 240000;
    private static final int FIRST_OBJECT = 1024;
    // What a declarator makes of a type: kind, number and, of a function, the number of its parameters.
    private static final int MOD = 3;
    private static final int M_POINTER = 0;
    private static final int M_ARRAY = 1;
    private static final int M_FUNCTION = 2;
    private static final int M_PARAMETER = 3;
    // What breaks, continues and cases belong to: chains of jumps (NONE: not in one), a switch's type, where its
    // cases begin, its default.
    private static final int BREAKS = 0;
    private static final int CONTINUES = 1;
    private static final int SWITCH_TYPE = 2;
    private static final int SWITCH_CASES = 3;
    private static final int SWITCH_DEFAULT = 4;
    // The members of a struct so far: the end, the alignment, the unit of bit-fields, its bits in use, the last.
    private static final int END = 0;
    private static final int ALIGNMENT = 1;
    private static final int UNIT = 2;
    private static final int BITS_USED = 3;
    private static final int LAST = 4;
    // Where an initialiser goes on: a type (or NONE, and a type for index), where that lies, an index or member.
    private static final int STEP = 3;

    private final Pieces pieces;
    private final Parser parser;
    private final Types types = new Types();
    private final Symbols symbols;
    private final Expressions ex;
    private Program program = new Program();
    private int at;
    private int[] mods = new int[128];
    private int modTop;
    private int storage;
    private int declared;
    private int function;
    private long frame;
    /** Labels (name, code, 1) and gotos (name, where the jump has its place, 0) of the function. */
    private int[] labels = new int[32];
    private int labelTop;
    private final int[] control = new int[5];
    /** Worth and code of the cases of open switches. */
    private long[] cases = new long[32];
    private int caseTop;
    private int[] path = new int[64];
    private int pathTop;
    /** The symbol that is being initialised. */
    private int target;

    private Checker(Pieces pieces, Parser parser) {
      this.pieces = pieces;
      this.parser = parser;
      symbols = new Symbols(pieces, types);
      ex = new Expressions(pieces, parser, types, symbols);
    }

    private void checkUnit(Program made) {
      program = made;
      types.beginUnit();
      symbols.beginUnit();
      ex.beginUnit(made);
      at = 0;
      modTop = 0;
      caseTop = 0;
      program.texts = Arrays.copyOf(parser.texts, parser.textLength);
      program.facts[Program.COMPARING] = types.of[symbols.typeOf('c')];
      program.facts[Program.LEAVING] = types.of[symbols.typeOf('x')];
      for (int n = 0; n < MANY && peek() == E_DECLARATION; n++) {
        declaration(true);
      }
      if (pieces.fault == 0) {
        finishUnit();
      }
    }

    private int peek() {
      return pieces.fault == 0 && at < parser.eventCount ? parser.events[at] & 255 : E_END;
    }

    private int next() {
      return pieces.fault == 0 && at < parser.eventCount ? parser.events[at++] >> 8 : 0;
    }

    private void fault() {
      ex.fault();
    }

    /** Faults and traps are told at the line of this token from now on. */
    private void here(int token) {
      if (token < parser.count) {
        ex.where = parser.places[token];
        program.line = lineOf(ex.where);
      }
    }

    private void backTo(int where, int line) {
      ex.where = where;
      program.line = line;
    }

    private static long roundUp(long size, long alignment) {
      return alignment > 0 ? (size + alignment - 1) / alignment * alignment : size;
    }

    /** Takes an expression; it is the latest operand then. */
    private void expression() {
      for (int n = 0; n < MANY && peek() >= E_IDENTIFIER; n++) {
        int event = peek();
        int number = next();
        if (event == E_TYPE_NAME) {
          ex.keep(typeName());
        } else {
          ex.event(event, number);
        }
      }
    }

    private long constantExpression() {
      expression();
      return ex.constantWorth();
    }

    private int typeName() {
      int base = specifiers(false);
      int type = declarator(base);
      next();
      return type;
    }

    // Specifiers.

    /** Takes specifiers; the type that they give, while storage is the one of typedef, extern and static. */
    private int specifiers(boolean ofParameter) {
      int outer = ex.where;
      boolean tagged = peek() == E_SPECIFIERS_TAGGED;
      int first = next();
      if (tagged && first < parser.count) {
        ex.where = parser.places[first];
      }
      long words = 0;
      int longs = 0;
      int given = NONE;
      boolean twice = false;
      for (int n = 0; n < MANY && pieces.fault == 0 && peek() != E_SPECIFIERS_END; n++) {
        int event = peek();
        if (event == E_WORD) {
          int word = parser.kindAt(next());
          if (ofParameter && isStorage(word)) {
            pieces.fail(4, outer);
          }
          twice |= word != K_LONG && (words & bit(word)) != 0;
          longs += word == K_LONG ? 1 : 0;
          words |= bit(word);
        } else {
          boolean more = given != NONE || (words & typeWords()) != 0;
          if (event == E_TYPEDEF_NAME) {
            given = symbols.type[symbols.identifier(parser.nameAt(next()))];
          } else {
            if (more || twice || Long.bitCount(words & storages()) > 1) {
              fault();
            }
            given = tag(event);
          }
          twice |= more;
        }
      }
      next();
      int type = given == NONE ? typeOf(words, longs) : (words & typeWords()) == 0 ? given : NONE;
      if (twice || type == NONE || Long.bitCount(words & storages()) > 1) {
        fault();
      }
      ex.where = outer;
      storage = (words & bit(K_TYPEDEF)) != 0 ? K_TYPEDEF : (words & bit(K_EXTERN)) != 0 ? K_EXTERN
          : (words & bit(K_STATIC)) != 0 ? K_STATIC : 0;
      return Math.max(type, 0);
    }

    private static long bit(int word) {
      return 1L << word - K_AUTO;
    }

    private static boolean isStorage(int word) {
      return word == K_TYPEDEF || word == K_EXTERN || word == K_STATIC;
    }

    private static long storages() {
      return bit(K_TYPEDEF) | bit(K_EXTERN) | bit(K_STATIC);
    }

    private static long typeWords() {
      return bit(K_VOID) | bit(K_CHAR) | bit(K_SHORT) | bit(K_INT) | bit(K_LONG) | bit(K_FLOAT) | bit(K_DOUBLE)
          | bit(K_SIGNED) | bit(K_UNSIGNED);
    }

    /** The type that type words give; NONE if they give none. */
    private static int typeOf(long words, int longs) {
      long signs = words & (bit(K_SIGNED) | bit(K_UNSIGNED));
      long rest = words & typeWords() & ~signs;
      boolean unsigned = signs == bit(K_UNSIGNED);
      if (Long.bitCount(signs) > 1) {
        return NONE;
      }
      if (signs == 0 && (rest == bit(K_VOID) || rest == bit(K_FLOAT) || rest == bit(K_DOUBLE))) {
        return rest == bit(K_VOID) ? VOID : rest == bit(K_FLOAT) ? FLOAT : DOUBLE;
      }
      if (rest == bit(K_CHAR)) {
        return unsigned ? UCHAR : CHAR;
      }
      long wide = rest & ~bit(K_INT);
      if (wide == bit(K_SHORT)) {
        return unsigned ? USHORT : SHORT;
      }
      if (wide == bit(K_LONG) && longs == 2) {
        return unsigned ? ULLONG : LLONG;
      }
      boolean plain = wide == 0 && (rest != 0 || signs != 0) || wide == bit(K_LONG) && longs == 1;
      return !plain ? NONE : unsigned ? UINT : INT;
    }

    /** Takes a struct, union or enum; its type. */
    private int tag(int event) {
      if (pieces.fault != 0) {
        return INT;
      }
      int word = next();
      int kind = parser.kindAt(word);
      int name = parser.kindAt(word + 1) == Parser.T_NAME ? parser.nameAt(word + 1) : NONE;
      if (event == E_ENUM) {
        return enumerators(name);
      }
      if (event == E_STRUCT) {
        return members(kind, name);
      }
      int symbol = symbols.tag(name);
      if (event == E_TAG_ALONE && !symbols.isHere(symbol)) {
        symbol = 0;
      }
      if (symbol != 0) {
        if (symbols.worth[symbol] != kind) {
          fault();
        }
        return symbols.type[symbol];
      }
      if (kind == K_ENUM) {
        fault();
      }
      return symbols.type[declareTag(name, kind)];
    }

    private int declareTag(int name, int kind) {
      int type = kind == K_ENUM ? INT : types.newStruct(kind == K_STRUCT ? Types.STRUCT : Types.UNION);
      int symbol = symbols.add(Symbols.TAG, name, type);
      symbols.worth[symbol] = kind;
      symbols.declare(symbol);
      return symbol;
    }

    private int enumerators(int name) {
      if (name != NONE) {
        if (symbols.isHere(symbols.tag(name))) {
          fault();
        }
        declareTag(name, K_ENUM);
      }
      int worth = 0;
      for (int n = 0; n < MANY && peek() == E_ENUMERATOR; n++) {
        int spelling = parser.nameAt(next());
        if (peek() == E_ENUM_VALUE) {
          next();
          worth = (int) constantExpression();
        }
        if (symbols.isHere(symbols.identifier(spelling)) || spelling == W_MAIN && symbols.depth == 0) {
          fault();
        }
        int symbol = symbols.add(Symbols.ENUMERATOR, spelling, INT);
        symbols.worth[symbol] = worth++;
        symbols.declare(symbol);
      }
      next();
      return INT;
    }

    private int members(int kind, int name) {
      int symbol = name == NONE ? 0 : symbols.tag(name);
      int type;
      if (symbols.isHere(symbol)) {
        if (symbols.worth[symbol] != kind || (symbols.flags[symbol] & Symbols.DEFINED) != 0) {
          fault();
        }
      } else if (name != NONE) {
        symbol = declareTag(name, kind);
      } else {
        symbol = 0;
      }
      if (symbol != 0) {
        symbols.flags[symbol] |= Symbols.DEFINED;
        type = symbols.type[symbol];
      } else {
        type = types.newStruct(kind == K_STRUCT ? Types.STRUCT : Types.UNION);
      }
      long[] layout = {0, 1, NONE, 0, NONE};
      for (int n = 0; n < MANY && peek() == E_MEMBER; n++) {
        next();
        int base = specifiers(false);
        for (int m = 0; m < MANY && peek() == E_FIELD; m++) {
          field(type, base, layout);
        }
        next();
      }
      closeMembers(type, layout);
      next();
      return type;
    }

    private void field(int struct, int base, long[] layout) {
      next();
      int type = base;
      int name = NONE;
      if (peek() == E_DECLARATOR) {
        type = declarator(base);
        name = declared == NONE ? NONE : parser.nameAt(declared);
      }
      if (name != NONE && types.memberCalled(struct, name) >= 0) {
        fault();
      }
      if (peek() != E_WIDTH) {
        plainMember(struct, name, type, layout);
        return;
      }
      next();
      long width = constantExpression();
      if (type != INT && type != UINT || width < 0 || width > 32 || width == 0 && name != NONE) {
        fault();
      } else {
        bitMember(struct, name, type, (int) width, layout);
      }
    }

    private void plainMember(int struct, int name, int type, long[] layout) {
      if (!types.isComplete(type)) {
        fault();
        return;
      }
      boolean union = types.kind[struct] == Types.UNION;
      long offset = union ? 0 : roundUp(layout[END], types.alignment[type]);
      layout[END] = Math.max(layout[END], offset + types.size[type]);
      layout[ALIGNMENT] = Math.max(layout[ALIGNMENT], types.alignment[type]);
      layout[UNIT] = NONE;
      link(struct, name, type, offset, Types.NONE, layout);
    }

    private void bitMember(int struct, int name, int type, int width, long[] layout) {
      if (width == 0) {
        layout[UNIT] = NONE;
        return;
      }
      boolean union = types.kind[struct] == Types.UNION;
      if (union || layout[UNIT] == NONE || layout[BITS_USED] + width > 32) {
        layout[UNIT] = union ? 0 : roundUp(layout[END], 4);
        layout[BITS_USED] = 0;
        layout[END] = Math.max(layout[END], layout[UNIT] + 4);
        layout[ALIGNMENT] = Math.max(layout[ALIGNMENT], 4);
      }
      if (name != NONE) {
        link(struct, name, type, layout[UNIT], (int) layout[BITS_USED] << 8 | width, layout);
      }
      layout[BITS_USED] += width;
    }

    private void link(int struct, int name, int type, long offset, int bits, long[] layout) {
      int member = types.addMember(name, type, (int) Math.min(offset, Integer.MAX_VALUE), bits);
      if (layout[LAST] == NONE) {
        types.first[struct] = member;
      } else {
        types.nextMember[(int) layout[LAST]] = member;
      }
      layout[LAST] = member;
    }

    private void closeMembers(int type, long[] layout) {
      long size = roundUp(layout[END], layout[ALIGNMENT]);
      if (layout[LAST] == NONE || size > LARGEST) {
        fault();
        return;
      }
      types.size[type] = (int) size;
      types.alignment[type] = (int) layout[ALIGNMENT];
    }

    // Declarators.

    private void addMod(int kind, int number, int count) {
      mods = grown(mods, modTop + MOD);
      mods[modTop] = kind;
      mods[modTop + 1] = number;
      mods[modTop + 2] = count;
      modTop += MOD;
    }

    /** Takes a declarator; the type that it makes of another, while declared is its identifier's token. */
    private int declarator(int base) {
      int bottom = modTop;
      int name = NONE;
      next();
      for (int n = 0; n < MANY && pieces.fault == 0 && peek() != E_DECLARATOR_END; n++) {
        int event = peek();
        int number = next();
        if (event == E_NAME) {
          name = number;
        } else if (event == E_ARRAY) {
          long length = constantExpression();
          if (length < 1 || length > LARGEST) {
            fault();
          }
          addMod(M_ARRAY, (int) length, 0);
        } else if (event == E_PARAMETERS) {
          parameters(number == 1);
        } else {
          addMod(event == E_ARRAY_OPEN ? M_ARRAY : M_POINTER, number, 0);
        }
      }
      next();
      int type = built(base, bottom);
      modTop = bottom;
      declared = name;
      return type;
    }

    private void parameters(boolean ofDefinition) {
      int bottom = modTop;
      symbols.openBlock();
      for (int n = 0; n < MANY && peek() == E_PARAMETER; n++) {
        next();
        parameter();
      }
      int rest = next();
      if (ofDefinition) {
        symbols.keepBlock();
      }
      symbols.closeBlock();
      int first = types.parameterTotal;
      for (int i = bottom; i < modTop; i += MOD) {
        types.addParameter(mods[i + 1]);
      }
      int count = (modTop - bottom) / MOD;
      modTop = bottom;
      addMod(M_FUNCTION, first, 2 * count + rest);
    }

    private void parameter() {
      int type = specifiers(true);
      declared = NONE;
      if (peek() == E_DECLARATOR) {
        type = declarator(type);
      }
      if (types.isArray(type)) {
        type = types.pointer(types.of[type]);
      } else if (types.isFunction(type)) {
        type = types.pointer(type);
      }
      if (declared != NONE && pieces.fault == 0) {
        int name = parser.nameAt(declared);
        if (symbols.isHere(symbols.identifier(name))) {
          fault();
        }
        symbols.declare(symbols.add(Symbols.LOCAL, name, type));
      }
      addMod(M_PARAMETER, type, 0);
    }

    private int built(int base, int bottom) {
      int type = base;
      for (int i = modTop - MOD; i >= bottom && pieces.fault == 0; i -= MOD) {
        int number = mods[i + 1];
        if (mods[i] == M_POINTER) {
          for (int n = 0; n < number; n++) {
            type = types.pointer(type);
          }
        } else if (mods[i] == M_ARRAY) {
          if (!types.isComplete(type)) {
            fault();
          } else {
            type = types.array(type, number);
            checkSize(type);
          }
        } else if (types.isArray(type) || types.isFunction(type)) {
          fault();
        } else {
          type = types.function(type, number, mods[i + 2] >> 1, (mods[i + 2] & 1) != 0);
        }
      }
      return type;
    }

    private void checkSize(int type) {
      if (types.size[type] > LARGEST) {
        fault();
      }
    }

    // Declarations.

    private void declaration(boolean external) {
      int outer = ex.where;
      int line = program.line;
      here(next());
      int base = specifiers(false);
      int as = storage;
      for (int n = 0; n < MANY && peek() == E_DECLARATOR; n++) {
        int type = declarator(base);
        int behind = next();
        int symbol = pieces.fault == 0 ? declare(type, as, behind, external) : 0;
        if (pieces.fault == 0 && behind == 1) {
          initialise(symbol);
        } else if (pieces.fault == 0 && behind == 2) {
          body(symbol);
        }
      }
      next();
      ex.tellRoom();
      backTo(outer, line);
    }

    /** Declares one identifier, behind which there is an initialiser (1), a body (2) or nothing; its symbol. */
    private int declare(int type, int as, int behind, boolean external) {
      int name = declared == NONE ? W_ZERO : parser.nameAt(declared);
      boolean here = symbols.isHere(symbols.identifier(name));
      if (as == K_TYPEDEF) {
        if (behind != 0 || here || external && name == W_MAIN) {
          fault();
        }
        int symbol = symbols.add(Symbols.TYPEDEF, name, type);
        symbols.declare(symbol);
        return symbol;
      }
      boolean isFunction = types.isFunction(type);
      boolean open = types.isArray(type) && behind == 1;
      boolean ofUnit = external || isFunction || as == K_EXTERN;
      boolean incomplete = !types.isComplete(type) && !open;
      if (isFunction ? behind == 1 : type == VOID || behind == 2 || incomplete && (!ofUnit || behind == 1)) {
        fault();
      }
      if (ofUnit) {
        return declareOfUnit(name, type, as, behind, external);
      }
      if (here) {
        fault();
      }
      int symbol = symbols.add(as == K_STATIC ? Symbols.OBJECT : Symbols.LOCAL, name, type);
      if (as == K_STATIC) {
        symbols.index[symbol] = program.facts[Program.OBJECTS]++;
        symbols.flags[symbol] = Symbols.DEFINED;
      } else {
        symbols.index[symbol] = takeFrame(type);
      }
      symbols.declare(symbol);
      return symbol;
    }

    /** A place in the frame, which then goes on behind it; of an array without length where it will begin. */
    private int takeFrame(int type) {
      frame = roundUp(frame, types.alignment[type]);
      int place = (int) Math.min(frame, Integer.MAX_VALUE / 2);
      frame += Math.max(types.size[type], 0);
      return place;
    }

    private int declareOfUnit(int name, int type, int as, int behind, boolean external) {
      int kind = types.isFunction(type) ? Symbols.FUNCTION : Symbols.OBJECT;
      int known = symbols.identifier(name);
      int symbol = symbols.unit(name);
      boolean here = symbols.isHere(known);
      if (here && (!external || known != symbol) || name == W_MAIN && !isMain(type)) {
        fault();
      }
      if (symbol == 0) {
        symbol = symbols.add(kind, name, type);
        symbols.index[symbol] = kind == Symbols.FUNCTION ? program.addFunction(type) : program.facts[Program.OBJECTS]++;
        symbols.setUnit(name, symbol);
      } else if (symbols.kind[symbol] != kind) {
        fault();
      } else {
        symbols.type[symbol] = merged(symbols.type[symbol], type);
      }
      if (!external) {
        int alias = symbols.add(Symbols.ALIAS, name, type);
        symbols.index[alias] = symbol;
        symbols.declare(alias);
      } else if (!here) {
        symbols.declare(symbol);
      }
      if (behind != 0 && (symbols.flags[symbol] & Symbols.INITIALISED) != 0) {
        fault();
      }
      boolean defines = behind != 0 || kind == Symbols.OBJECT && external && as != K_EXTERN;
      symbols.flags[symbol] |= (defines ? Symbols.DEFINED : 0) | (behind != 0 ? Symbols.INITIALISED : 0);
      return symbol;
    }

    /** The type of what is declared twice. */
    private int merged(int before, int now) {
      if (before == now) {
        return before;
      }
      boolean arrays = types.isArray(before) && types.isArray(now) && types.of[before] == types.of[now];
      if (!arrays || types.count[before] > 0 && types.count[now] > 0) {
        fault();
      }
      return types.count[before] > 0 ? before : now;
    }

    private boolean isMain(int type) {
      if (!types.isFunction(type) || types.of[type] != INT || types.takesMore(type)) {
        return false;
      }
      int count = types.parameterCount(type);
      int first = types.first[type];
      return count == 0 || count == 2 && types.parameters[first] == INT
          && types.parameters[first + 1] == types.pointer(types.pointer(CHAR));
    }

    private void body(int symbol) {
      int near = next();
      int type = symbols.type[symbol];
      int answer = types.of[type];
      if (near == 0 || !types.isFunction(type) || answer != VOID && !types.isComplete(answer)) {
        fault();
        return;
      }
      symbols.openKeptBlock();
      int at8 = symbols.index[symbol] * Program.F_STRIDE;
      program.functions[at8 + Program.F_ENTRY] = program.codeLength;
      program.functions[at8 + Program.F_ANSWER] = answer == VOID ? Program.NOTHING
          : types.isRecord(answer) ? Program.RECORD : Types.isReal(answer) ? Program.REAL : Program.WHOLE;
      program.functions[at8 + Program.F_SIZE] = Math.max(types.size[answer], 0);
      program.functions[at8 + Program.F_PARAMETERS] = program.parameterCount;
      program.functions[at8 + Program.F_COUNT] = types.parameterCount(type);
      function = symbol;
      takeParameters(type);
      ex.tellRoom();
      ex.inFunction = true;
      ex.answerTop = 0;
      labelTop = 0;
      Arrays.fill(control, NONE);
      items(E_FUNCTION_END);
      here(next());
      endFunction(at8, answer);
      ex.inFunction = false;
      ex.lastParameter = 0;
      symbols.closeBlock();
    }

    private void takeParameters(int type) {
      frame = 0;
      int named = 0;
      int last = 0;
      for (int i = 0; i < symbols.keptCount; i++) {
        int parameter = symbols.kept[i];
        if (symbols.kind[parameter] == Symbols.LOCAL) {
          int of = symbols.type[parameter];
          if (!types.isComplete(of)) {
            fault();
            return;
          }
          symbols.index[parameter] = takeFrame(of);
          int kind = types.isRecord(of) ? -types.size[of] : types.machineKind(of);
          program.addParameter(symbols.index[parameter], kind);
          last = parameter;
          named++;
        }
      }
      if (named != types.parameterCount(type)) {
        fault();
      }
      ex.lastParameter = types.takesMore(type) ? last : 0;
    }

    private void endFunction(int at8, int answer) {
      if (answer == VOID) {
        program.emit(Machine.RETURN);
      } else if (symbols.name[function] == W_MAIN) {
        program.emit(Machine.LITERAL, 0);
        program.emit(Machine.RETURN_WHOLE);
      } else {
        program.emit(Machine.NO_ANSWER);
      }
      for (int i = 0; i < labelTop; i += 3) {
        if (labels[i + 2] == 0) {
          int label = labelAt(labels[i]);
          if (label < 0) {
            fault();
          } else {
            program.code[labels[i + 1]] = labels[label + 1];
          }
        }
      }
      frame = placeAnswers(ex.answers, ex.answerTop, frame);
      if (frame > LARGEST) {
        pieces.fail(5, ex.where);
      }
      program.functions[at8 + Program.F_FRAME] = (int) Math.min(frame, LARGEST);
      program.facts[Program.FUNCTIONS]++;
      program.facts[Program.GREATEST_FRAME] = Math.max(program.facts[Program.GREATEST_FRAME], (int) Math.min(frame, LARGEST));
    }

    private int labelAt(int name) {
      for (int i = 0; i < labelTop; i += 3) {
        if (labels[i] == name && labels[i + 2] == 1) {
          return i;
        }
      }
      return NONE;
    }

    /** Gives the answers of calls their places behind a frame's objects; the size of the whole. */
    private long placeAnswers(int[] answers, int length, long from) {
      long end = from;
      for (int i = 0; i < length; i += 2) {
        int type = answers[i + 1];
        end = roundUp(end, types.alignment[type]);
        if (answers[i] >= 0) {
          program.code[answers[i]] = (int) Math.min(end, LARGEST);
        }
        end += Math.max(types.size[type], 0);
      }
      return roundUp(end, 8);
    }

    // The end of the unit.

    private void finishUnit() {
      ex.where = parser.count > 0 ? parser.places[parser.count - 1] : place(0, 1);
      program.line = 0;
      int main = symbols.unit(W_MAIN);
      if (main == 0 || (symbols.flags[main] & Symbols.DEFINED) == 0) {
        fault();
      }
      program.facts[Program.OBJECTS] = 0;
      long end = FIRST_OBJECT;
      for (int symbol = 1; symbol < symbols.count; symbol++) {
        int kind = symbols.kind[symbol];
        boolean defined = (symbols.flags[symbol] & Symbols.DEFINED) != 0;
        if (kind == Symbols.OBJECT || kind == Symbols.FUNCTION) {
          boolean used = (symbols.flags[symbol] & Symbols.USED) != 0;
          if (used && !defined || kind == Symbols.OBJECT && defined && !types.isComplete(symbols.type[symbol])) {
            fault();
          }
        }
        if (kind == Symbols.OBJECT && defined && pieces.fault == 0) {
          end = placeObject(symbol, end);
        }
      }
      if (pieces.fault == 0) {
        placeRest(end);
        program.mainFunction = symbols.index[main];
      }
    }

    private long placeObject(int symbol, long from) {
      int type = symbols.type[symbol];
      long place = roundUp(from, types.alignment[type]);
      program.objects = grown(program.objects, symbols.index[symbol]);
      program.objects[symbols.index[symbol]] = (int) Math.min(place, Integer.MAX_VALUE);
      program.facts[Program.OBJECTS]++;
      return place + types.size[type];
    }

    private void placeRest(long objectsEnd) {
      long end = objectsEnd;
      for (int i = 0; i < program.stringCount; i++) {
        program.strings[i * Program.S_STRIDE + Program.S_ADDRESS] = (int) Math.min(end, Integer.MAX_VALUE);
        end += program.strings[i * Program.S_STRIDE + Program.S_LENGTH] + 1;
      }
      end = roundUp(end, 16);
      long first = placeAnswers(ex.firstAnswers, ex.firstAnswerTop, 0);
      if (end > LAST_START || first > LARGEST) {
        pieces.fail(5, ex.where);
      }
      program.heapStart = (int) Math.min(end, LARGEST);
      program.initialFrame = (int) Math.min(first, LARGEST);
      program.facts[Program.STRINGS] = program.stringCount;
      program.facts[Program.GREATEST_FRAME] = Math.max(program.facts[Program.GREATEST_FRAME], program.initialFrame);
    }

    // Statements.

    private void items(int end) {
      for (int n = 0; n < MANY && pieces.fault == 0 && peek() != end; n++) {
        if (peek() == E_DECLARATION) {
          declaration(false);
        } else {
          statement();
        }
      }
    }

    private void statement() {
      int event = peek();
      int token = next();
      if (event == E_BLOCK) {
        symbols.openBlock();
        items(E_BLOCK_END);
        next();
        symbols.closeBlock();
        return;
      }
      int outer = ex.where;
      int line = program.line;
      here(token);
      switch (event) {
        case E_EMPTY: break;
        case E_LABEL: label(token); break;
        case E_CASE: case E_DEFAULT: caseLabel(event == E_CASE); break;
        default:
          program.emit(Machine.STEP);
          counted(event, token);
      }
      backTo(outer, line);
    }

    /** A statement whose beginning is a step. */
    private void counted(int event, int token) {
      switch (event) {
        case E_EXPRESSION:
          expression();
          ex.dropValue();
          ex.tellRoom();
          return;
        case E_IF: ifStatement(); return;
        case E_SWITCH: switchStatement(); return;
        case E_WHILE: whileStatement(); return;
        case E_DO: doStatement(); return;
        case E_FOR: forStatement(); return;
        case E_GOTO: gotoStatement(token); return;
        case E_CONTINUE: leave(CONTINUES); return;
        case E_BREAK: leave(BREAKS); return;
        case E_RETURN: returnStatement(); return;
        default: fault();
      }
    }

    private void addLabel(int name, int code, int kind) {
      labels = grown(labels, labelTop + 2);
      labels[labelTop] = name;
      labels[labelTop + 1] = code;
      labels[labelTop + 2] = kind;
      labelTop += 3;
    }

    private void label(int token) {
      int name = parser.nameAt(token);
      if (labelAt(name) >= 0) {
        fault();
      }
      addLabel(name, program.codeLength, 1);
      statement();
    }

    private void gotoStatement(int token) {
      addLabel(parser.nameAt(token + 1), program.emit(Machine.JUMP, 0) - 1, 0);
    }

    private void caseLabel(boolean isCase) {
      if (control[SWITCH_TYPE] == NONE) {
        fault();
      }
      if (isCase) {
        long worth = Types.cut(control[SWITCH_TYPE], constantExpression());
        for (int i = control[SWITCH_CASES]; i < caseTop && i >= 0; i += 2) {
          if (cases[i] == worth) {
            fault();
          }
        }
        ex.tellRoom();
        cases = grown(cases, caseTop + 1);
        cases[caseTop++] = worth;
        cases[caseTop++] = program.codeLength;
      } else {
        if (control[SWITCH_DEFAULT] != NONE) {
          fault();
        }
        control[SWITCH_DEFAULT] = program.codeLength;
      }
      statement();
    }

    private void condition() {
      expression();
      ex.useCondition();
    }

    private void ifStatement() {
      condition();
      ex.tellRoom();
      int otherwise = program.emit(Machine.JUMP_FALSE, 0) - 1;
      statement();
      if (peek() == E_ELSE) {
        next();
        int end = program.emit(Machine.JUMP, 0) - 1;
        program.lead(otherwise);
        statement();
        program.lead(end);
      } else {
        program.lead(otherwise);
      }
    }

    private void switchStatement() {
      expression();
      if (pieces.fault != 0) {
        return;
      }
      ex.value();
      int type = ex.type();
      int promoted = Types.promoted(type);
      if (!types.isInteger(type)) {
        fault();
      }
      ex.useFor(promoted);
      ex.tellRoom();
      int code = program.emit(Machine.SWITCH, 0, 0, 0) - 3;
      int breaks = control[BREAKS];
      int outerType = control[SWITCH_TYPE];
      int outerCases = control[SWITCH_CASES];
      int outerDefault = control[SWITCH_DEFAULT];
      control[BREAKS] = 0;
      control[SWITCH_TYPE] = promoted;
      control[SWITCH_CASES] = caseTop;
      control[SWITCH_DEFAULT] = NONE;
      statement();
      closeSwitch(code);
      control[BREAKS] = breaks;
      control[SWITCH_TYPE] = outerType;
      control[SWITCH_CASES] = outerCases;
      control[SWITCH_DEFAULT] = outerDefault;
    }

    private void closeSwitch(int code) {
      int first = control[SWITCH_CASES];
      int from = program.cases.length;
      int count = (caseTop - first) / 2;
      program.cases = Arrays.copyOf(program.cases, from + 3 * count);
      for (int i = 0; i < count; i++) {
        program.cases[from + 3 * i] = (int) cases[first + 2 * i];
        program.cases[from + 3 * i + 1] = (int) (cases[first + 2 * i] >> 32);
        program.cases[from + 3 * i + 2] = (int) cases[first + 2 * i + 1];
      }
      program.code[code] = from;
      program.code[code + 1] = count;
      program.lead(control[BREAKS]);
      program.code[code + 2] = control[SWITCH_DEFAULT] == NONE ? program.codeLength : control[SWITCH_DEFAULT];
      caseTop = first;
    }

    private void whileStatement() {
      int breaks = control[BREAKS];
      int continues = control[CONTINUES];
      int first = program.codeLength;
      program.emit(Machine.STEP);
      condition();
      ex.tellRoom();
      control[BREAKS] = program.emit(Machine.JUMP_FALSE, 0) - 1;
      control[CONTINUES] = 0;
      statement();
      leadTo(control[CONTINUES], first);
      program.emit(Machine.JUMP, first);
      program.lead(control[BREAKS]);
      control[BREAKS] = breaks;
      control[CONTINUES] = continues;
    }

    /** Leads a chain of jumps back to a place that is known. */
    private void leadTo(int chain, int to) {
      int at = chain;
      for (int n = 0; n < MANY && at > 0; n++) {
        int before = program.code[at];
        program.code[at] = to;
        at = before;
      }
    }

    private void doStatement() {
      int breaks = control[BREAKS];
      int continues = control[CONTINUES];
      int first = program.codeLength;
      control[BREAKS] = 0;
      control[CONTINUES] = 0;
      statement();
      next();
      program.lead(control[CONTINUES]);
      program.emit(Machine.STEP);
      condition();
      ex.tellRoom();
      program.emit(Machine.JUMP_TRUE, first);
      program.lead(control[BREAKS]);
      control[BREAKS] = breaks;
      control[CONTINUES] = continues;
    }

    private void forStatement() {
      int breaks = control[BREAKS];
      int continues = control[CONTINUES];
      symbols.openBlock();
      if (peek() == E_DECLARATION) {
        declaration(false);
      } else if (peek() != E_FOR_FIRST) {
        expression();
        ex.dropValue();
      }
      next();
      int first = program.codeLength;
      program.emit(Machine.STEP);
      int end = 0;
      if (peek() != E_FOR_CONDITION) {
        condition();
        end = program.emit(Machine.JUMP_FALSE, 0) - 1;
      }
      next();
      int third = program.codeLength;
      if (peek() != E_FOR_THIRD) {
        int body = program.emit(Machine.JUMP, 0) - 1;
        third = program.codeLength;
        expression();
        ex.dropValue();
        program.emit(Machine.JUMP, first);
        program.lead(body);
      } else {
        third = first;
      }
      next();
      ex.tellRoom();
      control[BREAKS] = end;
      control[CONTINUES] = 0;
      statement();
      leadTo(control[CONTINUES], third);
      program.emit(Machine.JUMP, third);
      program.lead(control[BREAKS]);
      symbols.closeBlock();
      control[BREAKS] = breaks;
      control[CONTINUES] = continues;
    }

    private void leave(int what) {
      if (control[what] == NONE) {
        fault();
      } else {
        control[what] = program.emit(Machine.JUMP, control[what]) - 1;
      }
    }

    private void returnStatement() {
      int answer = types.of[symbols.type[function]];
      if (peek() < E_IDENTIFIER) {
        if (answer != VOID) {
          fault();
        }
        program.emit(Machine.RETURN);
        return;
      }
      expression();
      ex.useFor(answer);
      ex.tellRoom();
      if (types.isRecord(answer)) {
        program.emit(Machine.RETURN_RECORD, types.size[answer]);
      } else {
        program.emit(Types.isReal(answer) ? Machine.RETURN_REAL : Machine.RETURN_WHOLE);
      }
    }

    // Initialisers.

    private void initialise(int symbol) {
      boolean local = symbols.kind[symbol] == Symbols.LOCAL;
      int around = 0;
      if (!local) {
        around = ex.inFunction ? program.emit(Machine.JUMP, 0) - 1 : 0;
        program.beginInitialiser();
        ex.inStatic = true;
      }
      target = symbols.meant(symbol);
      pathTop = 0;
      goInto(NONE, 0, symbols.type[target]);
      boolean open = !types.isComplete(symbols.type[target]);
      if (peek() == E_BRACE) {
        address(0);
        int zero = program.emit(Machine.ZERO, 0) - 1;
        braces();
        program.code[zero] = Math.max(types.size[elementType()], 0);
      } else {
        next();
        expression();
        wholeValue();
      }
      symbols.type[target] = elementType();
      if (open && local) {
        frame += Math.max(types.size[elementType()], 0);
      }
      if (!local) {
        program.endInitialiser();
        program.lead(around);
        ex.inStatic = false;
      }
    }

    /** The latest operand initialises the whole object. */
    private void wholeValue() {
      if (pieces.fault == 0 && types.isText(elementType()) && ex.bareString() >= 0) {
        putText();
      } else {
        putValue();
      }
    }

    private void goInto(int type, int offset, int index) {
      path = grown(path, pathTop + STEP);
      path[pathTop] = type;
      path[pathTop + 1] = offset;
      path[pathTop + 2] = index;
      pathTop += STEP;
    }

    /** Goes on with the first element or member of the present one. */
    private void goIntoElement() {
      int type = elementType();
      goInto(type, elementOffset(), types.isArray(type) ? 0 : types.first[type]);
    }

    private int elementType() {
      int in = path[pathTop - STEP];
      int index = path[pathTop - 1];
      return in == NONE ? index : types.isArray(in) ? types.of[in] : index < 0 ? INT : types.memberType[index];
    }

    private int elementOffset() {
      int in = path[pathTop - STEP];
      int offset = path[pathTop - 2];
      int index = path[pathTop - 1];
      if (in == NONE || index < 0) {
        return offset;
      }
      return offset + (types.isArray(in) ? index * types.size[types.of[in]] : types.memberOffset[index]);
    }

    private int elementBits() {
      int in = path[pathTop - STEP];
      int index = path[pathTop - 1];
      return in != NONE && types.isRecord(in) && index >= 0 ? types.memberBits[index] : Types.NONE;
    }

    /** Whether there is no element any more where the path stands. */
    private boolean atEnd() {
      int in = path[pathTop - STEP];
      int index = path[pathTop - 1];
      if (in == NONE) {
        return false;
      }
      return types.isArray(in) ? index >= (types.count[in] > 0 ? types.count[in] : LARGEST + 1) : index < 0;
    }

    private void advance() {
      int in = path[pathTop - STEP];
      int index = path[pathTop - 1];
      if (in != NONE) {
        path[pathTop - 1] = types.isArray(in) ? index + 1
            : types.kind[in] == Types.UNION || index < 0 ? NONE : types.nextMember[index];
      }
    }

    private void address(int offset) {
      if (symbols.kind[target] == Symbols.LOCAL) {
        program.emit(Machine.LOCAL, symbols.index[target] + offset);
      } else {
        program.emit(Machine.OBJECT, symbols.index[target], offset);
      }
    }

    /** Puts the latest operand into the present element. */
    private void putValue() {
      int type = elementType();
      if (types.isArray(type)) {
        fault();
        return;
      }
      ex.useFor(type);
      address(elementOffset());
      if (types.isRecord(type)) {
        program.emit(Machine.PUT_RECORD, types.size[type]);
      } else if (elementBits() != Types.NONE) {
        program.emit(Machine.PUT_BITS, elementBits());
      } else {
        program.emit(Machine.PUT, types.machineKind(type));
      }
    }

    /** Puts the string that the latest operand is into the present element, which is a char array. */
    private void putText() {
      int string = ex.bareString() * Program.S_STRIDE;
      int from = program.strings[string + Program.S_FROM];
      int length = program.strings[string + Program.S_LENGTH];
      int type = elementType();
      if (!types.isComplete(type)) {
        type = types.array(types.of[type], length + 1);
        path[pathTop - 1] = path[pathTop - STEP] == NONE ? type : path[pathTop - 1];
      }
      if (length > types.count[type]) {
        fault();
      }
      ex.checkRoom();
      ex.dropOperand();
      program.stringCount--;
      address(elementOffset());
      program.emit(Machine.TEXT, from, length, types.size[type]);
    }

    /** Takes { } for the present element. */
    private void braces() {
      next();
      int type = elementType();
      if (types.isScalar(type)) {
        scalarBraces();
        return;
      }
      int bottom = pathTop;
      int longest = 0;
      boolean first = true;
      goIntoElement();
      for (int n = 0; n < MANY && pieces.fault == 0 && peek() != E_BRACE_END; n++) {
        if (peek() == E_ELEMENT || peek() == E_MEMBER_NAME) {
          designators(bottom + STEP);
          first = false;
        } else {
          climb(bottom + STEP);
        }
        longest = Math.max(longest, path[bottom + STEP - 1] + 1);
        if (peek() == E_BRACE) {
          braces();
        } else {
          next();
          expression();
          if (first && pieces.fault == 0 && types.isText(type) && ex.bareString() >= 0) {
            longest = wholeText(bottom);
          } else {
            putPart();
          }
        }
        advance();
        first = false;
      }
      next();
      pathTop = bottom;
      if (!types.isComplete(type) && pieces.fault == 0) {
        closeArray(type, longest);
      }
    }

    /** The array without length that is initialised has one now. */
    private void closeArray(int type, int longest) {
      if (longest < 1 || longest > LARGEST) {
        fault();
      } else {
        int whole = types.array(types.of[type], longest);
        checkSize(whole);
        path[pathTop - 1] = whole;
      }
    }

    /** A string in { } for the whole char array that these are for; its length. */
    private int wholeText(int bottom) {
      int length = program.strings[ex.bareString() * Program.S_STRIDE + Program.S_LENGTH] + 1;
      int inside = pathTop;
      pathTop = bottom;
      int type = path[pathTop - 1];
      putText();
      if (path[pathTop - STEP] == NONE) {
        path[pathTop - 1] = type;
      }
      pathTop = inside;
      path[pathTop - 1] = LARGEST + 1;
      return length;
    }

    private void scalarBraces() {
      if (peek() != E_PART) {
        fault();
        return;
      }
      next();
      expression();
      putValue();
      if (peek() != E_BRACE_END) {
        fault();
      }
      next();
    }

    /** Leaves what has no elements any more, up to what the { } are for. */
    private void climb(int bottom) {
      for (int n = 0; n < MANY && pathTop > bottom && atEnd(); n++) {
        pathTop -= STEP;
        advance();
      }
      if (atEnd()) {
        fault();
      }
    }

    private void designators(int bottom) {
      pathTop = bottom;
      boolean first = true;
      for (int n = 0; n < MANY && (peek() == E_ELEMENT || peek() == E_MEMBER_NAME); n++) {
        boolean element = peek() == E_ELEMENT;
        int token = next();
        if (!first) {
          if (types.isScalar(elementType())) {
            fault();
            return;
          }
          goIntoElement();
        }
        int in = path[pathTop - STEP];
        long index = element ? constantExpression() : NONE;
        if (element ? !types.isArray(in) : !types.isRecord(in)) {
          fault();
          return;
        }
        if (!element) {
          index = types.memberCalled(in, parser.nameAt(token));
        }
        path[pathTop - 1] = (int) Math.max(NONE, Math.min(index, LARGEST + 1));
        if (index < 0 || atEnd()) {
          fault();
        }
        first = false;
      }
      next();
    }

    /** Puts the latest operand into the present element, or the first one in it that it fits. */
    private void putPart() {
      for (int n = 0; n < MANY && pieces.fault == 0; n++) {
        int type = elementType();
        if (types.isText(type) && ex.bareString() >= 0) {
          putText();
          return;
        }
        if (types.isScalar(type) || types.isRecord(type) && ex.type() == type) {
          putValue();
          return;
        }
        goIntoElement();
        if (atEnd()) {
          fault();
        }
      }
    }
  }

  /** The machine: its memory, its stack of values, and the doing of instructions. */
  private static final class Machine {
    // Instructions, with what stands behind them.
    private static final int DONE = 0;
    private static final int INITIALISED = 1;
    private static final int STEP = 2;
    private static final int JUMP = 3;             // to
    private static final int JUMP_FALSE = 4;       // to
    private static final int JUMP_TRUE = 5;        // to
    private static final int AND = 6;              // to
    private static final int OR = 7;               // to
    private static final int SWITCH = 8;           // first case, how many, default
    private static final int CALL = 9;             // parameters, more arguments, where in the frame the answer goes
    private static final int CHECK_CALL = 10;      // type
    private static final int RETURN = 11;
    private static final int RETURN_WHOLE = 12;
    private static final int RETURN_REAL = 13;
    private static final int RETURN_RECORD = 14;   // size
    private static final int NO_ANSWER = 15;
    private static final int LIBRARY = 16;         // which, parameters, more arguments
    private static final int SORT = 17;
    private static final int NOTHING = 18;
    private static final int LITERAL = 19;         // worth
    private static final int WIDE = 20;            // lower half, upper half
    private static final int REAL = 21;            // which
    private static final int LOCAL = 22;           // place in the frame
    private static final int OBJECT = 23;          // which, place in it
    private static final int STRING = 24;          // which
    private static final int FUNCTION = 25;        // which
    private static final int OFFSET = 26;          // bytes
    private static final int POP = 27;
    private static final int COPY_TOP = 28;
    private static final int START_LIST = 29;
    private static final int NEXT_ARGUMENT = 30;   // kind
    private static final int LOAD = 32;            // kind
    private static final int STORE = 33;           // kind
    private static final int PUT = 34;             // kind
    private static final int LOAD_BITS = 35;       // bits, kind
    private static final int STORE_BITS = 36;      // bits, kind
    private static final int PUT_BITS = 37;        // bits
    private static final int COPY = 38;            // size
    private static final int PUT_RECORD = 39;      // size
    private static final int ZERO = 40;            // size
    private static final int TEXT = 41;            // where in the texts, length, size
    private static final int CHANGE = 42;          // kind, by, whether the worth before is meant
    private static final int CHANGE_BITS = 43;     // bits, kind, by times 2 and whether the worth before is meant
    private static final int CAST = 48;            // kind
    private static final int CAST_BELOW = 49;      // kind
    private static final int TO_REAL = 50;         // 1 from an unsigned long long, kind
    private static final int TO_REAL_BELOW = 51;   // 1 from an unsigned long long, kind
    private static final int TO_WHOLE = 52;        // kind
    private static final int ROUND = 53;
    private static final int TRUTH = 54;
    private static final int TRUTH_REAL = 55;
    private static final int NOT_TRUE = 56;
    private static final int AS_BITS = 57;
    private static final int NEGATE = 58;          // kind
    private static final int NEGATE_REAL = 59;     // kind
    private static final int COMPLEMENT = 60;      // kind
    private static final int INTEGERS = 61;        // sign, kind
    private static final int REALS = 62;           // sign, kind
    private static final int POINTER_ADD = 64;     // size
    private static final int ADD_POINTER = 65;     // size
    private static final int POINTER_SUBTRACT = 66; // size
    private static final int DIFFERENCE = 67;      // size

    private static final int MEMORY = 262144;
    private static final int FIRST = 1024;
    private static final int LAST_START = 240000;
    private static final int FUNCTIONS = 0x40000000;
    private static final long ADDRESSES = 4294967295L;
    /** A thousand calls, each with an expression of room 130, of which an operator may take two values. */
    private static final int MOST_VALUES = 280000;
    private static final int MOST_CALLS = 1000;
    private static final long MOST_INSTRUCTIONS = 1L << 40;
    // What is kept of an active call.
    private static final int FRAME = 6;
    private static final int RETURN_TO = 0;
    private static final int BASE = 1;
    private static final int STACK_END = 2;
    private static final int OF = 3;
    private static final int ANSWER = 4;
    private static final int BOTTOM = 5;
    // Phases of a run.
    private static final int BEFORE_MAIN = 0;
    private static final int IN_MAIN = 1;
    private static final int LEAVING = 2;

    private Program program = new Program();
    private final Library library = new Library();
    private final byte[] memory = new byte[MEMORY];
    private final long[] whole = new long[MOST_VALUES + 8];
    private final double[] real = new double[MOST_VALUES + 8];
    private int top;
    private int pc;
    private int base;
    private int stackEnd;
    private int heapStart;
    private int heapEnds;
    private int lowestStack;
    private final int[] frames = new int[FRAME * (MOST_CALLS + 1)];
    private int depth;
    private int stepsMade;
    private int fuel;
    /** Below 0 while the program runs. */
    private int outcome;
    private int exitValue;
    private int lineOfTrap;
    private int strayed;
    private int phase;

    private void perform(Program what, int mostSteps, byte[] input, byte[][] arguments, int argumentCount) {
      program = what;
      fuel = mostSteps;
      Arrays.fill(memory, (byte) 0);
      top = 0;
      pc = 2;
      base = MEMORY;
      stackEnd = MEMORY;
      lowestStack = MEMORY;
      depth = 0;
      stepsMade = 0;
      outcome = -1;
      exitValue = 0;
      lineOfTrap = 0;
      strayed = 0;
      phase = BEFORE_MAIN;
      library.beginRun(input);
      layStrings();
      heapStart = program.heapStart;
      push(FUNCTIONS + 16L * program.mainFunction);
      if (mainParameters() > 0) {
        layArguments(arguments, argumentCount);
      }
      heapEnds = heapStart;
      openInitialFrame();
      for (long n = 0; n < MOST_INSTRUCTIONS && outcome < 0; n++) {
        instruction();
      }
    }

    private int mainParameters() {
      return program.functions[program.mainFunction * Program.F_STRIDE + Program.F_COUNT];
    }

    private void layStrings() {
      for (int i = 0; i < program.stringCount; i++) {
        int string = i * Program.S_STRIDE;
        System.arraycopy(program.texts, program.strings[string + Program.S_FROM], memory,
            program.strings[string + Program.S_ADDRESS], program.strings[string + Program.S_LENGTH]);
      }
    }

    /** Lays "c" and the arguments at the heap's beginning, and behind them their addresses, for main. */
    private void layArguments(byte[][] arguments, int count) {
      long end = heapStart + 2;
      for (int i = 0; i < count; i++) {
        end += arguments[i].length + 1;
      }
      long row = (end + 3) / 4 * 4;
      long behind = (row + 4L * (count + 2) + 15) / 16 * 16;
      if (behind > LAST_START) {
        outcome = 2;
        return;
      }
      int at = heapStart;
      memory[at] = 'c';
      write((int) row, 4, at);
      at += 2;
      for (int i = 0; i < count; i++) {
        System.arraycopy(arguments[i], 0, memory, at, arguments[i].length);
        write((int) row + 4 * (i + 1), 4, at);
        at += arguments[i].length + 1;
      }
      push(count + 1);
      push(row);
      heapStart = (int) behind;
    }

    private void openInitialFrame() {
      int begin = MEMORY - program.initialFrame;
      if (program.initialFrame > 0 && outcome < 0) {
        if (begin < heapEnds) {
          outcome = 2;
        } else {
          base = begin;
          stackEnd = begin;
          lowestStack = begin;
        }
      }
    }

    private void trap(int what) {
      if (outcome < 0) {
        outcome = what;
        lineOfTrap = program.lineAt(pc - 1);
      }
    }

    /** What is met here can't be in a right system. */
    private void stray() {
      strayed++;
      trap(10);
    }

    private void step() {
      if (stepsMade >= fuel) {
        trap(9);
      } else {
        stepsMade++;
      }
    }

    private void push(long value) {
      if (top < MOST_VALUES) {
        whole[top++] = value;
      } else {
        stray();
      }
    }

    private void pushReal(double value) {
      if (top < MOST_VALUES) {
        real[top++] = value;
      } else {
        stray();
      }
    }

    private long pop() {
      if (top <= 0) {
        stray();
        return 0;
      }
      return whole[--top];
    }

    private double popReal() {
      if (top <= 0) {
        stray();
        return 0;
      }
      return real[--top];
    }

    private int word() {
      return pc < program.codeLength ? program.code[pc++] : 0;
    }

    private void instruction() {
      if (pc < 0 || pc >= program.codeLength) {
        stray();
        return;
      }
      int operation = program.code[pc++];
      switch (operation >> 4) {
        case 0: flow(operation); return;
        case 1: stackWork(operation); return;
        case 2: memoryWork(operation); return;
        case 3: valueWork(operation); return;
        case 4: pointerWork(operation); return;
        default: stray();
      }
    }

    // Where it goes on.

    private void flow(int operation) {
      switch (operation) {
        case DONE: done(); return;
        case INITIALISED: callMain(); return;
        case STEP: step(); return;
        case JUMP: pc = word(); return;
        case JUMP_FALSE: jumpIf(false); return;
        case JUMP_TRUE: jumpIf(true); return;
        case AND: keepIf(false); return;
        case OR: keepIf(true); return;
        case SWITCH: goToCase(); return;
        case CALL: callFunction(); return;
        case CHECK_CALL: checkCall(word()); return;
        case RETURN: leave(); return;
        case RETURN_WHOLE: returnWhole(); return;
        case RETURN_REAL: returnReal(); return;
        case RETURN_RECORD: returnRecord(word()); return;
        default: trap(8);
      }
    }

    private void jumpIf(boolean when) {
      int to = word();
      if (pop() != 0 == when) {
        pc = to;
      }
    }

    /** The first operand of && or || stays if it decides. */
    private void keepIf(boolean when) {
      int to = word();
      if (top > 0 && whole[top - 1] != 0 == when) {
        pc = to;
      } else {
        pop();
      }
    }

    private void goToCase() {
      int from = word();
      int count = word();
      int to = word();
      long value = pop();
      for (int i = from; i < from + 3 * count; i += 3) {
        long worth = (long) program.cases[i + 1] << 32 | program.cases[i] & ADDRESSES;
        if (worth == value) {
          pc = program.cases[i + 2];
          return;
        }
      }
      pc = to;
    }

    private void done() {
      if (phase == IN_MAIN) {
        exitValue = (int) pop() & 255;
        phase = LEAVING;
      }
      if (library.exitCount == 0) {
        outcome = 0;
        return;
      }
      top = 0;
      stackEnd = MEMORY;
      depth = 0;
      push(library.takeExit());
      checkCall(program.facts[Program.LEAVING]);
      call(0, 0, 0, 0);
    }

    /** Ends the program in its orderly way: what atexit was given is called first. */
    private void exit(int value) {
      exitValue = value & 255;
      if (phase == LEAVING) {
        outcome = 0;
      }
      phase = LEAVING;
      top = 0;
      pc = 0;
    }

    private void callMain() {
      phase = IN_MAIN;
      stackEnd = MEMORY;
      call(mainParameters(), 0, 0, 0);
    }

    private void callFunction() {
      int fixed = word();
      int more = word();
      int answer = base + word();
      call(fixed, more, answer, pc);
    }

    /** The function at an address; -1 if there is none with a body. */
    private int functionAt(long address) {
      long distance = address - FUNCTIONS;
      if (distance < 0 || distance % 16 != 0 || distance / 16 >= program.functionCount) {
        return -1;
      }
      int function = (int) (distance / 16);
      return program.functions[function * Program.F_STRIDE + Program.F_ENTRY] < 0 ? -1 : function;
    }

    private void checkCall(int type) {
      int function = top > 0 ? functionAt(whole[top - 1]) : -1;
      if (function < 0 || program.functions[function * Program.F_STRIDE + Program.F_TYPE] != type) {
        trap(7);
      }
    }

    /** Calls the function whose address lies below its arguments. */
    private void call(int fixed, int more, int answer, int back) {
      int bottom = top - fixed - more - 1;
      int function = bottom < 0 ? -1 : functionAt(whole[bottom]);
      if (function < 0 || outcome >= 0) {
        if (outcome < 0) {
          stray();
        }
        return;
      }
      int size = program.functions[function * Program.F_STRIDE + Program.F_FRAME];
      long begin = stackEnd - 8L * more - size;
      if (depth >= MOST_CALLS || begin < heapEnds) {
        trap(2);
        return;
      }
      step();
      if (outcome >= 0) {
        return;
      }
      int frame = depth * FRAME;
      frames[frame + RETURN_TO] = back;
      frames[frame + BASE] = base;
      frames[frame + STACK_END] = stackEnd;
      frames[frame + OF] = function;
      frames[frame + ANSWER] = answer;
      frames[frame + BOTTOM] = bottom;
      depth++;
      putPlaces(bottom + 1 + fixed, more);
      stackEnd = (int) begin;
      base = stackEnd;
      lowestStack = Math.min(lowestStack, stackEnd);
      Arrays.fill(memory, base, base + size, (byte) 0);
      putParameters(function, fixed, bottom + 1);
      if (outcome < 0) {
        top = bottom;
        pc = program.functions[function * Program.F_STRIDE + Program.F_ENTRY];
      }
    }

    /** Puts values from the stack into places of 8 bytes right below the stack's end. */
    private void putPlaces(int from, int count) {
      for (int i = 0; i < count; i++) {
        write(stackEnd - 8 * (count - i), 8, whole[from + i]);
      }
    }

    private void putParameters(int function, int count, int from) {
      int first = program.functions[function * Program.F_STRIDE + Program.F_PARAMETERS];
      for (int i = 0; i < count && outcome < 0; i++) {
        int place = base + program.parameters[2 * (first + i)];
        int kind = program.parameters[2 * (first + i) + 1];
        if (kind < 0) {
          copy(place, whole[from + i], -kind);
        } else {
          store(kind, place, from + i);
        }
      }
    }

    private void leave() {
      if (depth <= 0) {
        stray();
        return;
      }
      depth--;
      int frame = depth * FRAME;
      pc = frames[frame + RETURN_TO];
      base = frames[frame + BASE];
      stackEnd = frames[frame + STACK_END];
      top = frames[frame + BOTTOM];
    }

    private void returnWhole() {
      long value = pop();
      leave();
      push(value);
    }

    private void returnReal() {
      double value = popReal();
      leave();
      pushReal(value);
    }

    private void returnRecord(int size) {
      long from = pop();
      int to = depth > 0 ? frames[(depth - 1) * FRAME + ANSWER] : 0;
      if (copy(to, from, size)) {
        leave();
        push(to);
      }
    }

    // The stack.

    private void stackWork(int operation) {
      switch (operation) {
        case LIBRARY: callLibrary(); return;
        case SORT: library.goOnSorting(this, (int) pop(), pc - 1); return;
        case NOTHING: return;
        case LITERAL: push(word()); return;
        case WIDE: push(word() & ADDRESSES | (long) word() << 32); return;
        case REAL: pushReal(program.reals[word()]); return;
        case LOCAL: push(base + word()); return;
        case OBJECT: push(program.objects[word()] + word()); return;
        case STRING: push(program.strings[word() * Program.S_STRIDE + Program.S_ADDRESS]); return;
        case FUNCTION: push(FUNCTIONS + 16L * word()); return;
        case OFFSET: push(pop() + word() & ADDRESSES); return;
        case POP: pop(); return;
        case COPY_TOP: copyTop(); return;
        case START_LIST: startList(); return;
        case NEXT_ARGUMENT: nextArgument(word()); return;
        default: stray();
      }
    }

    private void copyTop() {
      long value = pop();
      push(value);
      push(value);
    }

    private void startList() {
      long variable = pop();
      int function = depth > 0 ? frames[(depth - 1) * FRAME + OF] : 0;
      int size = program.functions[function * Program.F_STRIDE + Program.F_FRAME];
      if (reaches(variable, 4)) {
        write((int) variable, 4, base + size);
      }
    }

    private void nextArgument(int kind) {
      long variable = pop();
      if (!reaches(variable, 4)) {
        return;
      }
      long from = read((int) variable, 4) & ADDRESSES;
      load(kind, from);
      if (outcome < 0) {
        write((int) variable, 4, from + 8);
      }
    }

    private void callLibrary() {
      int which = word();
      int fixed = word();
      int more = word();
      int bottom = top - fixed - more;
      if (bottom < 0) {
        stray();
        return;
      }
      int end = stackEnd;
      if (more > 0) {
        long begin = stackEnd - 8L * more;
        if (begin < heapEnds) {
          trap(2);
          return;
        }
        putPlaces(bottom + fixed, more);
        stackEnd = (int) begin;
        lowestStack = Math.min(lowestStack, stackEnd);
      }
      int places = stackEnd;
      library.perform(this, which, bottom, places);
      if (more > 0) {
        stackEnd = end;
      }
    }

    // Memory.

    /** Whether there are so many bytes from an address on; if not, that is a trap. */
    private boolean reaches(long address, long count) {
      if (address < FIRST || address + count > MEMORY) {
        trap(1);
        return false;
      }
      return true;
    }

    private long read(int address, int count) {
      long value = 0;
      for (int i = count - 1; i >= 0; i--) {
        value = value << 8 | memory[address + i] & 255;
      }
      return value;
    }

    private void write(int address, int count, long value) {
      for (int i = 0; i < count; i++) {
        memory[address + i] = (byte) (value >> 8 * i);
      }
    }

    private int byteAt(long address) {
      return reaches(address, 1) ? memory[(int) address] & 255 : 0;
    }

    private void setByte(long address, int value) {
      if (reaches(address, 1)) {
        memory[(int) address] = (byte) value;
      }
    }

    private int byteLeft(long address) {
      return address >= 0 && address < MEMORY ? memory[(int) address] & 255 : 0;
    }

    private static int sizeOf(int kind) {
      switch (kind) {
        case CHAR: case UCHAR: return 1;
        case SHORT: case USHORT: return 2;
        case LLONG: case ULLONG: case DOUBLE: return 8;
        default: return 4;
      }
    }

    /** Pushes the value of a kind that lies at an address. */
    private void load(int kind, long address) {
      int size = sizeOf(kind);
      if (!reaches(address, size)) {
        return;
      }
      long bits = read((int) address, size);
      if (kind < FLOAT) {
        push(Types.cut(kind, bits));
      } else if (kind == FLOAT ? isNoFloat((int) bits) : isNoNumber(bits)) {
        trap(6);
      } else {
        pushReal(kind == FLOAT ? floatOf((int) bits) : realOf(bits));
      }
    }

    /** Puts the value at a place of the stack to an address. */
    private boolean store(int kind, long address, int from) {
      int size = sizeOf(kind);
      if (!reaches(address, size)) {
        return false;
      }
      long bits = kind < FLOAT ? whole[from] : kind == FLOAT ? floatBitsOf(real[from]) : bitsOf(real[from]);
      write((int) address, size, bits);
      return true;
    }

    private boolean copy(long to, long from, int size) {
      if (!reaches(from, size) || !reaches(to, size)) {
        return false;
      }
      System.arraycopy(memory, (int) from, memory, (int) to, size);
      return true;
    }

    private void memoryWork(int operation) {
      switch (operation) {
        case LOAD: loadTop(word()); return;
        case STORE: assign(word()); return;
        case PUT: put(word()); return;
        case LOAD_BITS: loadBits(word(), word()); return;
        case STORE_BITS: assignBits(word(), word()); return;
        case PUT_BITS: putBits(word()); return;
        case COPY: assignRecord(word()); return;
        case PUT_RECORD: putRecord(word()); return;
        case ZERO: fill(pop(), word()); return;
        case TEXT: putText(word(), word(), word()); return;
        case CHANGE: change(word(), word(), word()); return;
        case CHANGE_BITS: changeBits(word(), word(), word()); return;
        default: stray();
      }
    }

    private void loadTop(int kind) {
      load(kind, pop());
    }

    /** Address and value become the value, which is put there. */
    private void assign(int kind) {
      if (top < 2) {
        stray();
      } else if (store(kind, whole[top - 2], top - 1)) {
        whole[top - 2] = whole[top - 1];
        real[top - 2] = real[top - 1];
        top--;
      }
    }

    private void put(int kind) {
      if (top < 2) {
        stray();
      } else if (store(kind, whole[top - 1], top - 2)) {
        top -= 2;
      }
    }

    private static long bitsIn(long unit, int bits, int kind) {
      int shift = 64 - (bits & 255) - (bits >> 8);
      int rest = 64 - (bits & 255);
      return kind == INT ? unit << shift >> rest : unit << shift >>> rest;
    }

    private void loadBits(int bits, int kind) {
      long address = pop();
      if (reaches(address, 4)) {
        push(bitsIn(read((int) address, 4), bits, kind));
      }
    }

    private boolean setBits(long address, int bits, long value) {
      if (!reaches(address, 4)) {
        return false;
      }
      long mask = (1L << (bits & 255)) - 1 << (bits >> 8);
      long unit = read((int) address, 4);
      write((int) address, 4, unit & ~mask | value << (bits >> 8) & mask);
      return true;
    }

    private void assignBits(int bits, int kind) {
      long value = pop();
      if (setBits(pop(), bits, value)) {
        push(bitsIn(value << (bits >> 8), bits, kind));
      }
    }

    private void putBits(int bits) {
      long address = pop();
      setBits(address, bits, pop());
    }

    private void assignRecord(int size) {
      long from = pop();
      long to = pop();
      if (copy(to, from, size)) {
        push(to);
      }
    }

    private void putRecord(int size) {
      long to = pop();
      copy(to, pop(), size);
    }

    private void fill(long address, int size) {
      if (reaches(address, size)) {
        Arrays.fill(memory, (int) address, (int) address + size, (byte) 0);
      }
    }

    private void putText(int from, int length, int size) {
      long address = pop();
      if (reaches(address, size)) {
        fill(address, size);
        System.arraycopy(program.texts, from, memory, (int) address, Math.min(length, size));
      }
    }

    /** ++ and --. */
    private void change(int kind, int by, int before) {
      long address = pop();
      load(kind, address);
      if (outcome >= 0) {
        return;
      }
      if (kind >= FLOAT) {
        double old = real[top - 1];
        real[top - 1] = kind == FLOAT ? (double) ((float) old + (float) by) : old + by;
        store(kind, address, top - 1);
        real[top - 1] = before == 1 ? old : real[top - 1];
      } else {
        long old = whole[top - 1];
        whole[top - 1] = Types.cut(kind, old + by);
        store(kind, address, top - 1);
        whole[top - 1] = before == 1 ? old : whole[top - 1];
      }
    }

    private void changeBits(int bits, int kind, int how) {
      long address = pop();
      if (reaches(address, 4)) {
        long old = bitsIn(read((int) address, 4), bits, kind);
        long now = old + (how >> 1);
        setBits(address, bits, now);
        push((how & 1) == 1 ? old : bitsIn(now << (bits >> 8), bits, kind));
      }
    }

    // Values.

    private void valueWork(int operation) {
      switch (operation) {
        case CAST: push(Types.cut(word(), pop())); return;
        case CAST_BELOW: castBelow(word()); return;
        case TO_REAL: toReal(top - 1, word(), word()); return;
        case TO_REAL_BELOW: toReal(top - 2, word(), word()); return;
        case TO_WHOLE: toWhole(word()); return;
        case ROUND: pushReal((double) (float) popReal()); return;
        case TRUTH: push(pop() != 0 ? 1 : 0); return;
        case TRUTH_REAL: push(popReal() != 0 ? 1 : 0); return;
        case NOT_TRUE: push(pop() == 0 ? 1 : 0); return;
        case AS_BITS: push(bitsOf(popReal())); return;
        case NEGATE: push(Types.cut(word(), -pop())); return;
        case NEGATE_REAL: word(); pushReal(popReal() * -1.0); return;
        case COMPLEMENT: push(Types.cut(word(), ~pop())); return;
        case INTEGERS: workIntegers(word(), word()); return;
        case REALS: workReals(word(), word()); return;
        default: stray();
      }
    }

    private void castBelow(int kind) {
      if (top < 2) {
        stray();
      } else {
        whole[top - 2] = Types.cut(kind, whole[top - 2]);
      }
    }

    private void toReal(int at, int unsigned, int kind) {
      if (at < 0) {
        stray();
        return;
      }
      long value = whole[at];
      if (unsigned == 1 && value < 0) {
        // Half of it, with a last bit that tells whether something was cut, so that it rounds once.
        long half = value >>> 1 | value & 1;
        real[at] = kind == FLOAT ? (double) ((float) half * 2.0f) : (double) half * 2.0;
      } else {
        real[at] = kind == FLOAT ? (double) (float) value : (double) value;
      }
    }

    private void toWhole(int kind) {
      double value = popReal();
      boolean fits;
      switch (kind) {
        case CHAR: fits = value > -129 && value < 128; break;
        case UCHAR: fits = value > -1 && value < 256; break;
        case SHORT: fits = value > -32769 && value < 32768; break;
        case USHORT: fits = value > -1 && value < 65536; break;
        case INT: fits = value > -2147483649.0 && value < 2147483648.0; break;
        case UINT: fits = value > -1 && value < 4294967296.0; break;
        case LLONG: fits = value >= -9223372036854775808.0 && value < 9223372036854775808.0; break;
        default: fits = value > -1 && value < 18446744073709551616.0;
      }
      if (!fits) {
        trap(5);
      } else if (value >= 9223372036854775808.0) {
        push((long) (value - 9223372036854775808.0) ^ Long.MIN_VALUE);
      } else {
        push((long) value);
      }
    }

    /** The trap of a binary operator on integers of a kind whose right one this is; 0 for none. */
    private static int trapOf(int sign, int kind, long right) {
      if ((sign == SLASH || sign == PERCENT) && right == 0) {
        return 3;
      }
      boolean shifts = sign == SHIFT_LEFT || sign == SHIFT_RIGHT;
      return shifts && (right < 0 || right >= (kind < LLONG ? 32 : 64)) ? 4 : 0;
    }

    /** The result of a binary operator on two integers of a kind; right is none with which it traps. */
    private static long worked(int sign, int kind, long a, long b) {
      switch (sign) {
        case STAR: return Types.cut(kind, a * b);
        case SLASH: return b == 0 ? 0 : Types.cut(kind, kind == ULLONG ? Long.divideUnsigned(a, b) : a / b);
        case PERCENT: return b == 0 ? 0 : Types.cut(kind, kind == ULLONG ? Long.remainderUnsigned(a, b) : a % b);
        case PLUS: return Types.cut(kind, a + b);
        case MINUS: return Types.cut(kind, a - b);
        case SHIFT_LEFT: return Types.cut(kind, a << b);
        case SHIFT_RIGHT: return kind == ULLONG ? a >>> b : a >> b;
        case AMPERSAND: return a & b;
        case CARET: return Types.cut(kind, a ^ b);
        case BAR: return a | b;
        default: return holds(sign, kind == ULLONG ? Long.compareUnsigned(a, b) : Long.compare(a, b)) ? 1 : 0;
      }
    }

    private static boolean holds(int sign, int order) {
      switch (sign) {
        case LESS: return order < 0;
        case GREATER: return order > 0;
        case LESS_EQUAL: return order <= 0;
        case GREATER_EQUAL: return order >= 0;
        case EQUAL: return order == 0;
        default: return order != 0;
      }
    }

    private void workIntegers(int sign, int kind) {
      long b = pop();
      long a = pop();
      int wrong = trapOf(sign, kind, b);
      if (wrong != 0) {
        trap(wrong);
      } else {
        push(worked(sign, kind, a, b));
      }
    }

    private static boolean isInfinite(double x) {
      return x > 0x1.fffffffffffffp1023 || x < -0x1.fffffffffffffp1023;
    }

    private void workReals(int sign, int kind) {
      double b = popReal();
      double a = popReal();
      if (sign != STAR && sign != SLASH && sign != PLUS && sign != MINUS) {
        push(holds(sign, a < b ? -1 : a > b ? 1 : 0) ? 1 : 0);
        return;
      }
      boolean both = isInfinite(a) && isInfinite(b);
      boolean no = sign == STAR && (isInfinite(a) && b == 0 || isInfinite(b) && a == 0)
          || sign == SLASH && (both || a == 0 && b == 0)
          || sign == PLUS && both && a != b || sign == MINUS && both && a == b;
      if (no) {
        trap(6);
      } else if (kind == FLOAT) {
        float x = (float) a;
        float y = (float) b;
        float z = sign == STAR ? x * y : sign == SLASH ? x / y : sign == PLUS ? x + y : x - y;
        pushReal((double) z);
      } else {
        pushReal(sign == STAR ? a * b : sign == SLASH ? a / b : sign == PLUS ? a + b : a - b);
      }
    }

    private void pointerWork(int operation) {
      int size = word();
      long b = pop();
      long a = pop();
      switch (operation) {
        case POINTER_ADD: push(a + (long) (int) b * size & ADDRESSES); return;
        case ADD_POINTER: push(b + (long) (int) a * size & ADDRESSES); return;
        case POINTER_SUBTRACT: push(a - (long) (int) b * size & ADDRESSES); return;
        case DIFFERENCE: push(size == 0 ? 0 : (int) (a - b) / size); return;
        default: stray();
      }
    }

    // Floating numbers and their bits.

    private static boolean isNoNumber(long bits) {
      return (bits & 0x7fffffffffffffffL) > 0x7ff0000000000000L;
    }

    private static boolean isNoFloat(int bits) {
      return (bits & 0x7fffffff) > 0x7f800000;
    }

    /** A number times a power of 2, which comes out exactly. */
    private static double scaled(double x, int power) {
      double result = x;
      double factor = power > 0 ? 2.0 : 0.5;
      int rest = Math.abs(power);
      for (int bit = 0; bit < 11; bit++) {
        if ((rest >> bit & 1) != 0) {
          result = result * factor;
        }
        factor = factor * factor;
      }
      return result;
    }

    private static double realOf(long bits) {
      int exponent = (int) (bits >>> 52) & 2047;
      long fraction = bits & 0xfffffffffffffL;
      double size;
      if (exponent == 2047) {
        size = 1e308 * 10.0;
      } else if (exponent == 0) {
        size = (double) fraction * 0x1p-1074;
      } else {
        size = scaled((double) (fraction | 0x10000000000000L), exponent - 1075);
      }
      return bits < 0 ? size * -1.0 : size;
    }

    private static double floatOf(int bits) {
      int exponent = bits >>> 23 & 255;
      int fraction = bits & 0x7fffff;
      double size;
      if (exponent == 255) {
        size = 1e308 * 10.0;
      } else if (exponent == 0) {
        size = (double) fraction * 0x1p-149;
      } else {
        size = scaled((double) (fraction | 0x800000), exponent - 150);
      }
      return bits < 0 ? size * -1.0 : size;
    }

    private static boolean isNegative(double x) {
      return x < 0 || x == 0 && 1.0 / x < 0;
    }

    private static long bitsOf(double x) {
      long sign = isNegative(x) ? Long.MIN_VALUE : 0;
      double size = x < 0 ? x * -1.0 : x;
      if (size == 0) {
        return sign;
      }
      if (isInfinite(size)) {
        return sign | 0x7ff0000000000000L;
      }
      int exponent = exponentOf(size);
      // Twice, as the power of 2 may be one that no number has.
      double one = scaled(scaled(size, -exponent / 2), -exponent - -exponent / 2);
      long fraction = (long) (one * 0x1p52);
      if (exponent < -1022) {
        return sign | fraction >> -1022 - exponent;
      }
      return sign | (long) (exponent + 1023) << 52 | fraction & 0xfffffffffffffL;
    }

    /** The power of 2 at or right below a number above 0. */
    private static int exponentOf(double x) {
      double rest = x;
      int exponent = 0;
      for (int twice = 0; twice < 2; twice++) {
        if (rest < 0x1p-511) {
          rest = rest * 0x1p512;
          exponent -= 512;
        }
      }
      for (int bit = 9; bit >= 0; bit--) {
        double power = power(bit);
        if (rest >= power) {
          rest = rest / power;
          exponent += 1 << bit;
        } else if (rest < 1.0 && rest * power < 2.0) {
          rest = rest * power;
          exponent -= 1 << bit;
        }
      }
      return exponent;
    }

    /** 2 to the power of 2 to the power of a number. */
    private static double power(int bit) {
      switch (bit) {
        case 9: return 0x1p512;
        case 8: return 0x1p256;
        case 7: return 0x1p128;
        case 6: return 0x1p64;
        case 5: return 0x1p32;
        case 4: return 0x1p16;
        case 3: return 0x1p8;
        case 2: return 0x1p4;
        case 1: return 0x1p2;
        default: return 0x1p1;
      }
    }

    /** The bits of a double that is a float. */
    private static int floatBitsOf(double x) {
      long bits = bitsOf(x);
      int sign = (int) (bits >>> 32) & 0x80000000;
      int exponent = (int) (bits >>> 52 & 2047) - 1023;
      long fraction = bits & 0xfffffffffffffL;
      if (exponent == 1024) {
        return sign | 0x7f800000;
      }
      if (exponent >= -126) {
        return sign | exponent + 127 << 23 | (int) (fraction >> 29);
      }
      int shift = 29 - 126 - exponent;
      return shift > 53 ? sign : sign | (int) ((fraction | 0x10000000000000L) >> shift);
    }
  }

  /** The library's functions, with the streams that they read and write. */
  private static final class Library {
    // The functions, in the order in which Symbols names them.
    private static final int PUTCHAR = 0;
    private static final int PUTC = 1;
    private static final int FPUTC = 2;
    private static final int PUTS = 3;
    private static final int FPUTS = 4;
    private static final int GETCHAR = 5;
    private static final int GETC = 6;
    private static final int FGETC = 7;
    private static final int FGETS = 8;
    private static final int UNGETC = 9;
    private static final int PRINTF = 10;
    private static final int FPRINTF = 11;
    private static final int SPRINTF = 12;
    private static final int SCANF = 13;
    private static final int SSCANF = 14;
    private static final int STRLEN = 15;
    private static final int STRCPY = 16;
    private static final int STRNCPY = 17;
    private static final int STRCAT = 18;
    private static final int STRNCAT = 19;
    private static final int STRCMP = 20;
    private static final int STRNCMP = 21;
    private static final int STRCHR = 22;
    private static final int STRRCHR = 23;
    private static final int STRSTR = 24;
    private static final int MEMCPY = 25;
    private static final int MEMMOVE = 26;
    private static final int MEMSET = 27;
    private static final int MEMCMP = 28;
    private static final int MEMCHR = 29;
    private static final int ISDIGIT = 30;
    private static final int TOUPPER = 39;
    private static final int TOLOWER = 40;
    private static final int ABS = 41;
    private static final int LABS = 42;
    private static final int LLABS = 43;
    private static final int ATOI = 44;
    private static final int ATOL = 45;
    private static final int ATOLL = 46;
    private static final int STRTOL = 47;
    private static final int FABS = 48;
    private static final int SQRT = 49;
    private static final int FLOOR = 50;
    private static final int CEIL = 51;
    private static final int EXIT = 52;
    private static final int ABORT = 53;
    private static final int ATEXIT = 54;
    private static final int QSORT = 55;
    private static final int SRAND = 56;
    private static final int RAND = 57;
    private static final int MALLOC = 58;
    private static final int CALLOC = 59;
    private static final int REALLOC = 60;
    private static final int FREE = 61;
    private static final int VA_START = 62;

    private static final int STDIN = 1;
    private static final int STDOUT = 2;
    private static final int STDERR = 3;
    private static final int MOST_WRITTEN = 32768;
    private static final int MOST_EXITS = 32;
    private static final int LARGEST = 240000;
    private static final int STACK_ROOM = 4096;
    /** A width or precision that is told as larger does the same. */
    private static final int WIDEST = 1000000;
    // Flags of a conversion, and how wide its argument is told to be.
    private static final int MINUS_FLAG = 1;
    private static final int PLUS_FLAG = 2;
    private static final int BLANK_FLAG = 4;
    private static final int ZERO_FLAG = 8;
    private static final int HASH_FLAG = 16;
    private static final String FLAGS = "-+ 0#";
    private static final int AS_CHAR = 1;
    private static final int AS_SHORT = 2;
    private static final int PLAIN = 3;
    private static final int AS_LONG = 4;
    private static final int AS_WIDE = 5;
    // Exact decimals.
    private static final int LIMBS = 100;
    private static final int LIMB = 1000000000;
    private static final int MOST_DIGITS = 1100;
    // What is kept of a sorting on the machine's stack.
    private static final int ROW = 0;
    private static final int COUNT = 1;
    private static final int SIZE = 2;
    private static final int ORDER = 3;
    private static final int COPY = 4;
    private static final int TAKEN = 5;
    private static final int PASSED = 6;
    private static final int OLD_END = 7;
    private static final int SORTING = 8;

    private byte[] input = new byte[0];
    private int inputAt;
    /** The byte that ungetc put back; -1 if there is none. */
    private int held;
    private final byte[][] outs = new byte[2][MOST_WRITTEN];
    private final int[] lengths = new int[2];
    private int seed;
    private final int[] exits = new int[MOST_EXITS];
    private int exitCount;
    // A printing or scanning: its format's next byte, the next argument, where bytes go to or come from (a stream's
    // number or an address), how many there were.
    private long formatAt;
    private long argumentAt;
    private long textAt;
    private int stream;
    private int done;
    private int flags;
    private int width;
    private int precision;
    private int breadth;
    /** The digits of a number, and how many of them stand before its point. */
    private final byte[] digits = new byte[MOST_DIGITS];
    private int digitCount;
    private int point;
    private final int[] limbs = new int[LIMBS];
    private int limbCount;

    private void beginRun(byte[] text) {
      input = text;
      inputAt = 0;
      held = -1;
      lengths[0] = 0;
      lengths[1] = 0;
      seed = 1;
      exitCount = 0;
    }

    private int writtenTo(int to) {
      return lengths[to - STDOUT];
    }

    private int byteWritten(int to, int i) {
      return i >= 0 && i < lengths[to - STDOUT] ? outs[to - STDOUT][i] & 255 : -1;
    }

    private long takeExit() {
      exitCount--;
      return exits[exitCount] & Machine.ADDRESSES;
    }

    /** Does a function whose arguments lie on the machine's stack from a place on; those behind ... in memory. */
    private void perform(Machine m, int which, int at, int more) {
      long a = m.whole[at];
      long b = m.whole[at + 1];
      long c = m.whole[at + 2];
      argumentAt = more;
      if (which == QSORT) {
        beginSorting(m, at);
      } else if (which == EXIT) {
        m.exit((int) a);
      } else if (which >= FABS && which <= CEIL) {
        m.top = at;
        m.pushReal(realFunction(m, which, m.real[at]));
      } else {
        m.top = at;
        long answer;
        if (which <= UNGETC) {
          answer = streamFunction(m, which, a, b, c);
        } else if (which <= SSCANF) {
          answer = formatFunction(m, which, a, b);
        } else if (which <= MEMCHR) {
          answer = textFunction(m, which, a, b, c);
        } else if (which <= TOLOWER) {
          answer = letterFunction(which, (int) a);
        } else {
          answer = otherFunction(m, which, a, b, c);
        }
        if (which != ABORT && which != SRAND && which != FREE) {
          m.push(answer);
        }
      }
    }

    // Streams.

    private long streamFunction(Machine m, int which, long a, long b, long c) {
      switch (which) {
        case PUTCHAR: return putTo(m, STDOUT, a);
        case PUTC: case FPUTC: return putTo(m, b, a);
        case PUTS: return putLine(m, a);
        case FPUTS: return putText(m, b, a);
        case GETCHAR: return nextByte();
        case GETC: case FGETC: return getFrom(m, a);
        case FGETS: return getLine(m, a, (int) b, c);
        default: return putBack(m, (int) a, b);
      }
    }

    private boolean isStream(Machine m, long file, int first) {
      if (file < first || file > STDERR) {
        m.trap(1);
        return false;
      }
      return true;
    }

    private long putTo(Machine m, long file, long value) {
      if (isStream(m, file, STDOUT)) {
        write(m, (int) file, (int) value);
      }
      return value & 255;
    }

    private void write(Machine m, int to, int value) {
      int out = to - STDOUT;
      if (m.outcome >= 0) {
        return;
      }
      if (lengths[out] >= MOST_WRITTEN) {
        m.trap(11);
      } else {
        outs[out][lengths[out]++] = (byte) value;
      }
    }

    private long putText(Machine m, long file, long text) {
      if (isStream(m, file, STDOUT)) {
        for (long at = text; at <= Machine.MEMORY; at++) {
          int value = m.byteAt(at);
          if (value == 0) {
            break;
          }
          write(m, (int) file, value);
        }
      }
      return 0;
    }

    private long putLine(Machine m, long text) {
      putText(m, STDOUT, text);
      write(m, STDOUT, 10);
      return 0;
    }

    private int peekByte() {
      return held >= 0 ? held : inputAt < input.length ? input[inputAt] & 255 : -1;
    }

    private int nextByte() {
      int value = peekByte();
      if (held >= 0) {
        held = -1;
      } else if (value >= 0) {
        inputAt++;
      }
      return value;
    }

    private long getFrom(Machine m, long file) {
      return isStream(m, file, STDIN) && file == STDIN ? nextByte() : -1;
    }

    private long putBack(Machine m, int value, long file) {
      if (!isStream(m, file, STDIN) || file != STDIN || value == -1 || held >= 0) {
        return -1;
      }
      held = value & 255;
      return value;
    }

    private long getLine(Machine m, long to, int most, long file) {
      if (!isStream(m, file, STDIN) || file != STDIN || most < 2 || peekByte() < 0) {
        return 0;
      }
      long at = to;
      int last = 0;
      while (at < to + most - 1 && last != 10 && peekByte() >= 0 && m.outcome < 0) {
        last = nextByte();
        m.setByte(at++, last);
      }
      m.setByte(at, 0);
      return to;
    }

    // Texts in memory.

    private long textFunction(Machine m, int which, long a, long b, long c) {
      switch (which) {
        case STRLEN: return endOf(m, a) - a;
        case STRCPY: return copyText(m, a, a, b);
        case STRNCPY: return copyPadded(m, a, b, c);
        case STRCAT: return copyText(m, a, endOf(m, a), b);
        case STRNCAT: return appendSome(m, a, b, c);
        case STRCMP: return compareTexts(m, a, b, Long.MAX_VALUE, true);
        case STRNCMP: return compareTexts(m, a, b, c, true);
        case STRCHR: return findByte(m, a, (int) b & 255);
        case STRRCHR: return findLast(m, a, (int) b & 255);
        case STRSTR: return findText(m, a, b);
        case MEMCPY: return copyBytes(m, a, b, c, false);
        case MEMMOVE: return copyBytes(m, a, b, c, a > b);
        case MEMSET: return setBytes(m, a, (int) b, c);
        case MEMCMP: return compareTexts(m, a, b, c, false);
        default: return findAmong(m, a, (int) b & 255, c);
      }
    }

    /** Where the 0 of a text lies. */
    private long endOf(Machine m, long text) {
      long at = text;
      while (at <= Machine.MEMORY && m.byteAt(at) != 0) {
        at++;
      }
      return at;
    }

    private long copyText(Machine m, long answer, long to, long from) {
      int value = 1;
      for (long i = 0; i <= Machine.MEMORY && value != 0 && m.outcome < 0; i++) {
        value = m.byteAt(from + i);
        if (m.outcome < 0) {
          m.setByte(to + i, value);
        }
      }
      return answer;
    }

    private long copyPadded(Machine m, long to, long from, long count) {
      int value = 1;
      for (long i = 0; i < count && m.outcome < 0; i++) {
        value = value == 0 ? 0 : m.byteAt(from + i);
        if (m.outcome < 0) {
          m.setByte(to + i, value);
        }
      }
      return to;
    }

    private long appendSome(Machine m, long to, long from, long count) {
      long end = endOf(m, to);
      for (long i = 0; i < count && m.outcome < 0; i++) {
        int value = m.byteAt(from + i);
        if (value == 0) {
          break;
        }
        m.setByte(end++, value);
      }
      if (m.outcome < 0) {
        m.setByte(end, 0);
      }
      return to;
    }

    private long compareTexts(Machine m, long a, long b, long count, boolean ends) {
      for (long i = 0; i < count && m.outcome < 0; i++) {
        int x = m.byteAt(a + i);
        int y = m.byteAt(b + i);
        if (x != y) {
          return x < y ? -1 : 1;
        }
        if (ends && x == 0) {
          break;
        }
      }
      return 0;
    }

    private long findByte(Machine m, long text, int value) {
      for (long at = text; at <= Machine.MEMORY && m.outcome < 0; at++) {
        int here = m.byteAt(at);
        if (here == value && m.outcome < 0) {
          return at;
        }
        if (here == 0) {
          break;
        }
      }
      return 0;
    }

    private long findLast(Machine m, long text, int value) {
      long found = 0;
      int here = 1;
      for (long at = text; at <= Machine.MEMORY && here != 0 && m.outcome < 0; at++) {
        here = m.byteAt(at);
        found = here == value ? at : found;
      }
      return found;
    }

    private long findText(Machine m, long text, long what) {
      long length = endOf(m, what) - what;
      for (long at = text; at <= Machine.MEMORY && m.outcome < 0; at++) {
        long same = 0;
        while (same < length && m.byteAt(at + same) == m.byteAt(what + same) && m.outcome < 0) {
          same++;
        }
        if (same == length) {
          return at;
        }
        if (m.outcome >= 0 || m.byteAt(at) == 0) {
          break;
        }
      }
      return 0;
    }

    private long copyBytes(Machine m, long to, long from, long count, boolean downwards) {
      for (long n = 0; n < count && m.outcome < 0; n++) {
        long i = downwards ? count - 1 - n : n;
        int value = m.byteAt(from + i);
        if (m.outcome < 0) {
          m.setByte(to + i, value);
        }
      }
      return to;
    }

    private long setBytes(Machine m, long to, int value, long count) {
      for (long i = 0; i < count && m.outcome < 0; i++) {
        m.setByte(to + i, value);
      }
      return to;
    }

    private long findAmong(Machine m, long from, int value, long count) {
      for (long i = 0; i < count && m.outcome < 0; i++) {
        if (m.byteAt(from + i) == value && m.outcome < 0) {
          return from + i;
        }
      }
      return 0;
    }

    // Letters and numbers.

    private static boolean isBlank(int c) {
      return c == ' ' || c >= 9 && c <= 13;
    }

    private static boolean isUpper(int c) {
      return c >= 'A' && c <= 'Z';
    }

    private static boolean isLower(int c) {
      return c >= 'a' && c <= 'z';
    }

    private static boolean isDigit(int c) {
      return c >= '0' && c <= '9';
    }

    private static boolean isHexadecimal(int c) {
      return isDigit(c) || c >= 'a' && c <= 'f' || c >= 'A' && c <= 'F';
    }

    private static long letterFunction(int which, int c) {
      if (which == TOUPPER) {
        return isLower(c) ? c - 32 : c;
      }
      if (which == TOLOWER) {
        return isUpper(c) ? c + 32 : c;
      }
      return isOfClass(which - ISDIGIT, c) ? 1 : 0;
    }

    private static boolean isOfClass(int which, int c) {
      boolean letter = isUpper(c) || isLower(c);
      switch (which) {
        case 0: return isDigit(c);
        case 1: return letter;
        case 2: return letter || isDigit(c);
        case 3: return isBlank(c);
        case 4: return isUpper(c);
        case 5: return isLower(c);
        case 6: return isHexadecimal(c);
        case 7: return c >= 32 && c <= 126;
        default: return c >= 33 && c <= 126 && !letter && !isDigit(c);
      }
    }

    private long otherFunction(Machine m, int which, long a, long b, long c) {
      switch (which) {
        case ABS: case LABS: return (int) Math.abs(a);
        case LLABS: return a < 0 ? -a : a;
        case ATOI: case ATOL: return (int) number(m, a, 10, 0);
        case ATOLL: return number(m, a, 10, 0);
        case STRTOL: return based(m, a, b, (int) c);
        case ABORT: m.trap(10); return 0;
        case ATEXIT: return atExit((int) a);
        case SRAND: seed = (int) a; return 0;
        case RAND: seed = seed * 1103515245 + 12345; return seed >> 16 & 32767;
        case MALLOC: return allocate(m, a);
        case CALLOC: return allocateClear(m, a, b);
        case REALLOC: return reallocate(m, a, b);
        case FREE: release(m, a); return 0;
        default: m.stray(); return 0;
      }
    }

    private long atExit(int address) {
      if (exitCount >= MOST_EXITS) {
        return 1;
      }
      exits[exitCount++] = address;
      return 0;
    }

    private static int digitOf(int c) {
      return isDigit(c) ? c - '0' : isLower(c) ? c - 'a' + 10 : isUpper(c) ? c - 'A' + 10 : 99;
    }

    /** Blanks, a sign and digits of a base (10 without prefixes); where they end goes to an address that is not 0. */
    private long number(Machine m, long text, int base, long to) {
      long at = text;
      while (at <= Machine.MEMORY && isBlank(m.byteAt(at))) {
        at++;
      }
      int sign = m.byteAt(at);
      at += sign == '-' || sign == '+' ? 1 : 0;
      int radix = base;
      boolean hexadecimal = (base == 0 || base == 16) && m.byteAt(at) == '0' && (m.byteAt(at + 1) | 32) == 'x'
          && isHexadecimal(m.byteAt(at + 2));
      if (hexadecimal) {
        at += 2;
        radix = 16;
      } else if (base == 0) {
        radix = m.byteAt(at) == '0' ? 8 : 10;
      }
      long first = at;
      long value = 0;
      while (at <= Machine.MEMORY && digitOf(m.byteAt(at)) < radix) {
        value = value * radix + digitOf(m.byteAt(at));
        at++;
      }
      if (to != 0 && m.outcome < 0 && m.reaches(to, 4)) {
        m.write((int) to, 4, at > first ? at : text);
      }
      return sign == '-' ? -value : value;
    }

    private long based(Machine m, long text, long to, int base) {
      if (base < 0 || base == 1 || base > 36) {
        if (to != 0 && m.reaches(to, 4)) {
          m.write((int) to, 4, text);
        }
        return 0;
      }
      return (int) number(m, text, base, to);
    }

    private double realFunction(Machine m, int which, double x) {
      switch (which) {
        case FABS: return Machine.isNegative(x) ? x * -1.0 : x;
        case SQRT: return root(m, x);
        case FLOOR: return rounded(x, -1);
        default: return rounded(x, 1);
      }
    }

    /** The whole number at or right below (-1) or above (1) a number. */
    private static double rounded(double x, int way) {
      if (x >= 4503599627370496.0 || x <= -4503599627370496.0 || x == 0) {
        return x;
      }
      double cut = (double) (long) x;
      if (way < 0 ? cut > x : cut < x) {
        cut = cut + way;
      }
      return cut == 0 && x < 0 ? -0.0 : cut;
    }

    private double root(Machine m, double x) {
      if (x < 0) {
        m.trap(6);
        return 0;
      }
      if (x == 0 || Machine.isInfinite(x)) {
        return x;
      }
      int exponent = Machine.exponentOf(x);
      int even = exponent - (exponent & 1);
      // x is q times 2 to the power of even - 52, and q has 53 or 54 bits.
      double q = Machine.scaled(Machine.scaled(x, (52 - even) / 2), 52 - even - (52 - even) / 2);
      return Machine.scaled(rootOf((long) q), even / 2 - 26 - 27);
    }

    /** The root of q times 2 to the power of 54, rounded to 53 bits. */
    private static double rootOf(long q) {
      long rest = 0;
      long root = 0;
      for (int pair = 53; pair >= 0; pair--) {
        long next = pair >= 27 ? q >> 2 * (pair - 27) & 3 : 0;
        rest = rest << 2 | next;
        long trial = root << 2 | 1;
        root <<= 1;
        if (rest >= trial) {
          rest -= trial;
          root |= 1;
        }
      }
      boolean up = (root & 1) != 0 && (rest != 0 || (root & 2) != 0);
      return (double) ((root >> 1) + (up ? 1 : 0)) * 2.0;
    }

    // The heap.

    private static long wordAt(Machine m, long address) {
      return m.reaches(address, 4) ? m.read((int) address, 4) : 0;
    }

    private static boolean isTaken(Machine m, long block) {
      return wordAt(m, block + 4) == 1;
    }

    private static void setHeader(Machine m, long block, long size, int taken) {
      if (m.outcome < 0 && m.reaches(block, 8)) {
        m.write((int) block, 4, size);
        m.write((int) block + 4, 4, taken);
      }
    }

    private static long blockSize(long wanted) {
      return Math.max(8, (wanted + 7) / 8 * 8);
    }

    private long allocate(Machine m, long wanted) {
      long size = blockSize(wanted);
      for (long block = m.heapStart; block < m.heapEnds && m.outcome < 0; block += 8 + wordAt(m, block)) {
        long has = wordAt(m, block);
        if (!isTaken(m, block) && has >= size) {
          if (has >= size + 16) {
            setHeader(m, block + 8 + size, has - size - 8, 0);
            has = size;
          }
          setHeader(m, block, has, 1);
          return block + 8;
        }
      }
      long begin = m.heapEnds;
      long end = begin + 8 + size;
      if (wanted > LARGEST || end > m.stackEnd - STACK_ROOM || m.outcome >= 0) {
        return 0;
      }
      m.heapEnds = (int) end;
      setHeader(m, begin, size, 1);
      return begin + 8;
    }

    private long allocateClear(Machine m, long count, long each) {
      if (count != 0 && each > LARGEST / count) {
        return 0;
      }
      long bytes = allocate(m, count * each);
      for (long i = 0; i < count * each && bytes != 0; i++) {
        m.setByte(bytes + i, 0);
      }
      return bytes;
    }

    /** The taken block whose bytes begin at an address; a trap and -1 if there is none. */
    private long blockOf(Machine m, long bytes) {
      for (long block = m.heapStart; block < m.heapEnds && m.outcome < 0; block += 8 + wordAt(m, block)) {
        if (block + 8 == bytes && isTaken(m, block)) {
          return block;
        }
      }
      m.trap(1);
      return -1;
    }

    private void release(Machine m, long bytes) {
      long block = bytes == 0 ? -1 : blockOf(m, bytes);
      if (block < 0) {
        return;
      }
      long size = wordAt(m, block);
      setHeader(m, block, size, 0);
      long behind = block + 8 + size;
      if (behind < m.heapEnds && !isTaken(m, behind)) {
        size += 8 + wordAt(m, behind);
        setHeader(m, block, size, 0);
      }
      long before = blockBefore(m, block);
      if (before >= 0 && !isTaken(m, before)) {
        size += 8 + wordAt(m, before);
        setHeader(m, before, size, 0);
        block = before;
      }
      if (block + 8 + size == m.heapEnds && m.outcome < 0) {
        m.heapEnds = (int) block;
      }
    }

    private long blockBefore(Machine m, long block) {
      long before = -1;
      for (long at = m.heapStart; at < block && m.outcome < 0; at += 8 + wordAt(m, at)) {
        before = at;
      }
      return before;
    }

    private long reallocate(Machine m, long bytes, long wanted) {
      if (bytes == 0) {
        return allocate(m, wanted);
      }
      long block = blockOf(m, bytes);
      if (block < 0) {
        return 0;
      }
      if (wanted == 0) {
        release(m, bytes);
        return 0;
      }
      long size = wordAt(m, block);
      if (size >= blockSize(wanted)) {
        return bytes;
      }
      long now = allocate(m, wanted);
      if (now != 0) {
        copyBytes(m, now, bytes, size, false);
        if (m.outcome < 0) {
          release(m, bytes);
        }
      }
      return now;
    }

    // Sorting: what is known of it lies on the machine's stack while the program compares.

    private void beginSorting(Machine m, int at) {
      long count = m.whole[at + COUNT];
      long size = m.whole[at + SIZE];
      if (count < 2 || size == 0) {
        m.top = at;
        m.pc++;
        return;
      }
      long begin = m.stackEnd - (size + 7) / 8 * 8;
      if (begin < m.heapEnds) {
        m.trap(2);
        return;
      }
      for (int i = COPY; i < SORTING; i++) {
        m.push(0);
      }
      m.whole[at + COPY] = m.stackEnd - size;
      m.whole[at + OLD_END] = m.stackEnd;
      m.stackEnd = (int) begin;
      m.lowestStack = Math.min(m.lowestStack, m.stackEnd);
      takeElement(m, at, 1);
      compare(m, at, m.pc);
    }

    private void takeElement(Machine m, int at, long i) {
      long size = m.whole[at + SIZE];
      m.whole[at + TAKEN] = i;
      m.whole[at + PASSED] = i;
      copyBytes(m, m.whole[at + COPY], m.whole[at + ROW] + i * size, size, false);
    }

    private void compare(Machine m, int at, int back) {
      if (m.outcome < 0) {
        m.push(m.whole[at + ORDER]);
        m.checkCall(m.program.facts[Program.COMPARING]);
        m.push(m.whole[at + ROW] + (m.whole[at + PASSED] - 1) * m.whole[at + SIZE]);
        m.push(m.whole[at + COPY]);
        m.call(2, 0, 0, back);
      }
    }

    /** The program has compared: above 0 if the element before comes behind the one that is taken. */
    private void goOnSorting(Machine m, int order, int back) {
      int at = m.top - SORTING;
      if (at < 0) {
        m.stray();
        return;
      }
      long size = m.whole[at + SIZE];
      long row = m.whole[at + ROW];
      long passed = m.whole[at + PASSED];
      if (order > 0) {
        copyBytes(m, row + passed * size, row + (passed - 1) * size, size, false);
        passed--;
        m.whole[at + PASSED] = passed;
      }
      if (order <= 0 || passed == 0) {
        copyBytes(m, row + passed * size, m.whole[at + COPY], size, false);
        if (m.whole[at + TAKEN] + 1 >= m.whole[at + COUNT]) {
          m.stackEnd = (int) m.whole[at + OLD_END];
          m.top = at;
          return;
        }
        takeElement(m, at, m.whole[at + TAKEN] + 1);
      }
      compare(m, at, back);
    }

    // Printing.

    private long formatFunction(Machine m, int which, long a, long b) {
      done = 0;
      textAt = -1;
      switch (which) {
        case PRINTF:
          stream = STDOUT;
          print(m, a);
          return done;
        case FPRINTF:
          stream = (int) a;
          if (isStream(m, a, STDOUT)) {
            print(m, b);
          }
          return done;
        case SPRINTF:
          textAt = a;
          print(m, b);
          if (m.outcome < 0) {
            m.setByte(textAt, 0);
          }
          return done;
        case SCANF:
          return scan(m, a);
        default:
          textAt = a;
          return scan(m, b);
      }
    }

    private void put(Machine m, int value) {
      if (m.outcome >= 0) {
        return;
      }
      done++;
      if (textAt >= 0) {
        m.setByte(textAt++, value);
      } else {
        write(m, stream, value);
      }
    }

    private void putMany(Machine m, int value, int count) {
      for (int i = 0; i < count && m.outcome < 0; i++) {
        put(m, value);
      }
    }

    private int formatByte(Machine m) {
      return m.byteAt(formatAt);
    }

    private void print(Machine m, long format) {
      formatAt = format;
      for (int n = 0; n < MANY && m.outcome < 0; n++) {
        int c = formatByte(m);
        if (c == 0) {
          return;
        }
        formatAt++;
        if (c != '%') {
          put(m, c);
        } else if (formatByte(m) == '%') {
          formatAt++;
          put(m, '%');
        } else {
          conversion(m);
        }
      }
    }

    private void conversion(Machine m) {
      flags = 0;
      int flag = flagAt(m);
      for (int n = 0; n < MANY && flag >= 0; n++) {
        flags |= 1 << flag;
        formatAt++;
        flag = flagAt(m);
      }
      width = readAmount(m, true);
      if (width < 0) {
        flags |= MINUS_FLAG;
        width = -width;
      }
      precision = -1;
      if (formatByte(m) == '.') {
        formatAt++;
        precision = Math.max(readAmount(m, true), -1);
      }
      readBreadth(m);
      int letter = formatByte(m);
      formatAt++;
      if (m.outcome < 0) {
        convert(m, letter);
      }
    }

    private int flagAt(Machine m) {
      int c = formatByte(m);
      return c == 0 ? -1 : FLAGS.indexOf((char) c);
    }

    /** Reads digits, or a * and its argument; 0 if there are none. */
    private int readAmount(Machine m, boolean star) {
      if (star && formatByte(m) == '*') {
        formatAt++;
        return (int) Math.max(-WIDEST, Math.min(argument(m, INT), WIDEST));
      }
      int amount = 0;
      for (int n = 0; n < MANY && isDigit(formatByte(m)); n++) {
        amount = Math.min(amount * 10 + formatByte(m) - '0', WIDEST);
        formatAt++;
      }
      return amount;
    }

    private void readBreadth(Machine m) {
      breadth = PLAIN;
      int c = formatByte(m);
      if (c == 'h' || c == 'l') {
        formatAt++;
        boolean twice = formatByte(m) == c;
        formatAt += twice ? 1 : 0;
        breadth = c == 'h' ? twice ? AS_CHAR : AS_SHORT : twice ? AS_WIDE : AS_LONG;
      }
    }

    /** The next argument behind the ..., of a whole kind. */
    private long argument(Machine m, int kind) {
      int size = Machine.sizeOf(kind);
      if (m.outcome >= 0 || !m.reaches(argumentAt, size)) {
        return 0;
      }
      long value = Types.cut(kind, m.read((int) argumentAt, size));
      argumentAt += 8;
      return value;
    }

    private void convert(Machine m, int letter) {
      switch (letter) {
        case 'd': case 'i': signedNumber(m); return;
        case 'u': case 'o': case 'x': case 'X': unsignedNumber(m, letter); return;
        case 'c':
          long value = argument(m, INT);
          padded(m, 1, false);
          put(m, (int) value);
          filled(m, 1);
          return;
        case 's': text(m, argument(m, UINT)); return;
        case 'p': pointer(m, argument(m, UINT)); return;
        case 'f': case 'F': case 'e': case 'E': floating(m, letter); return;
        default: m.trap(5);
      }
    }

    /** Puts the blanks that come before something so long, if they do. */
    private void padded(Machine m, int length, boolean zeros) {
      if ((flags & MINUS_FLAG) == 0 && !zeros) {
        putMany(m, ' ', width - length);
      }
    }

    private void filled(Machine m, int length) {
      if ((flags & MINUS_FLAG) != 0) {
        putMany(m, ' ', width - length);
      }
    }

    private boolean padsWithZeros() {
      return (flags & ZERO_FLAG) != 0 && (flags & MINUS_FLAG) == 0;
    }

    private int signFor(boolean negative) {
      return negative ? '-' : (flags & PLUS_FLAG) != 0 ? '+' : (flags & BLANK_FLAG) != 0 ? ' ' : 0;
    }

    private void signedNumber(Machine m) {
      long value = argument(m, breadth == AS_WIDE ? LLONG : INT);
      value = breadth == AS_CHAR ? (byte) value : breadth == AS_SHORT ? (short) value : value;
      setDigits(value < 0 ? -value : value, 10, false);
      whole(m, signFor(value < 0), 0, 0);
    }

    private void unsignedNumber(Machine m, int letter) {
      long value = argument(m, breadth == AS_WIDE ? ULLONG : UINT);
      value &= breadth == AS_CHAR ? 255 : breadth == AS_SHORT ? 65535 : -1L;
      setDigits(value, letter == 'u' ? 10 : letter == 'o' ? 8 : 16, letter == 'X');
      boolean marked = (flags & HASH_FLAG) != 0 && letter != 'u';
      boolean octalZero = marked && letter == 'o' && precision <= digitCount && (digitCount == 0 || digits[0] != '0');
      boolean prefixed = marked && letter != 'o' && value != 0;
      whole(m, 0, prefixed ? letter : 0, octalZero ? 1 : 0);
    }

    /** The digits of a number without sign; none for 0 with precision 0. */
    private void setDigits(long value, int base, boolean capital) {
      int end = 64;
      int at = end;
      for (long rest = value; rest != 0 && at > 0; rest = Long.divideUnsigned(rest, base)) {
        int digit = (int) Long.remainderUnsigned(rest, base);
        digits[--at] = (byte) (digit < 10 ? '0' + digit : (capital ? 'A' : 'a') + digit - 10);
      }
      if (value == 0 && precision != 0) {
        digits[--at] = '0';
      }
      digitCount = end - at;
      System.arraycopy(digits, at, digits, 0, digitCount);
    }

    /** Puts a sign (or 0), 0 and a letter (or 0), zeros and the digits. */
    private void whole(Machine m, int sign, int letter, int zero) {
      int zeros = Math.max(zero, precision - digitCount);
      int length = (sign == 0 ? 0 : 1) + (letter == 0 ? 0 : 2) + digitCount;
      if (precision < 0 && padsWithZeros()) {
        zeros = Math.max(zeros, width - length);
      }
      length += zeros;
      padded(m, length, false);
      if (sign != 0) {
        put(m, sign);
      }
      if (letter != 0) {
        put(m, '0');
        put(m, letter);
      }
      putMany(m, '0', zeros);
      putDigits(m, 0, digitCount);
      filled(m, length);
    }

    private void pointer(Machine m, long value) {
      precision = -1;
      setDigits(value, 16, false);
      int length = digitCount;
      System.arraycopy(digits, 0, digits, 8 - length, length);
      Arrays.fill(digits, 0, 8 - length, (byte) '0');
      digitCount = 8;
      whole(m, 0, 'x', 0);
    }

    private void putDigits(Machine m, int from, int to) {
      for (int i = from; i < to && m.outcome < 0; i++) {
        put(m, i >= 0 && i < digitCount ? digits[i] : '0');
      }
    }

    private void text(Machine m, long from) {
      int most = precision < 0 ? Machine.MEMORY + 1 : precision;
      int length = 0;
      while (length < most && m.outcome < 0 && m.byteAt(from + length) != 0) {
        length++;
      }
      padded(m, length, false);
      for (int i = 0; i < length && m.outcome < 0; i++) {
        put(m, m.byteAt(from + i));
      }
      filled(m, length);
    }

    private void floating(Machine m, int letter) {
      if (m.outcome >= 0 || !m.reaches(argumentAt, 8)) {
        return;
      }
      long bits = m.read((int) argumentAt, 8);
      argumentAt += 8;
      int decimals = precision < 0 ? 6 : precision;
      if (Machine.isNoNumber(bits)) {
        m.trap(6);
      } else if (decimals > 15) {
        m.trap(5);
      } else if ((bits & Long.MAX_VALUE) == 0x7ff0000000000000L) {
        infinite(m, signFor(bits < 0));
      } else {
        setDecimals(bits);
        if ((letter | 32) == 'f') {
          fixed(m, signFor(bits < 0), decimals);
        } else {
          scientific(m, signFor(bits < 0), decimals, letter);
        }
      }
    }

    private void infinite(Machine m, int sign) {
      int length = sign == 0 ? 3 : 4;
      padded(m, length, false);
      if (sign != 0) {
        put(m, sign);
      }
      put(m, 'i');
      put(m, 'n');
      put(m, 'f');
      filled(m, length);
    }

    private void beforeDigits(Machine m, int sign, int length) {
      padded(m, length, padsWithZeros());
      if (sign != 0) {
        put(m, sign);
      }
      if (padsWithZeros()) {
        putMany(m, '0', width - length);
      }
    }

    private void fixed(Machine m, int sign, int decimals) {
      roundTo(point + decimals);
      boolean pointed = decimals > 0 || (flags & HASH_FLAG) != 0;
      int length = (sign == 0 ? 0 : 1) + Math.max(point, 1) + (pointed ? 1 : 0) + decimals;
      beforeDigits(m, sign, length);
      putDigits(m, point > 0 ? 0 : -1, Math.max(point, 0));
      if (pointed) {
        put(m, '.');
      }
      putDigits(m, point, point + decimals);
      filled(m, length);
    }

    private void scientific(Machine m, int sign, int decimals, int letter) {
      boolean zero = digitCount == 0;
      roundTo(decimals + 1);
      int exponent = zero ? 0 : point - 1;
      boolean pointed = decimals > 0 || (flags & HASH_FLAG) != 0;
      int size = Math.abs(exponent);
      int length = (sign == 0 ? 0 : 1) + 1 + (pointed ? 1 : 0) + decimals + (size > 99 ? 5 : 4);
      beforeDigits(m, sign, length);
      putDigits(m, 0, 1);
      if (pointed) {
        put(m, '.');
      }
      putDigits(m, 1, decimals + 1);
      put(m, letter);
      put(m, exponent < 0 ? '-' : '+');
      if (size > 99) {
        put(m, '0' + size / 100);
      }
      put(m, '0' + size / 10 % 10);
      put(m, '0' + size % 10);
      filled(m, length);
    }

    /** The exact digits of a number that is not infinite, without its sign; 0 has none. */
    private void setDecimals(long bits) {
      int exponent = (int) (bits >>> 52) & 2047;
      long fraction = bits & 0xfffffffffffffL;
      fraction |= exponent > 0 ? 0x10000000000000L : 0;
      exponent = Math.max(exponent, 1) - 1075;
      int twos = fraction == 0 ? 0 : Math.min(Long.numberOfTrailingZeros(fraction), Math.max(-exponent, 0));
      fraction >>= twos;
      exponent += twos;
      limbs[0] = (int) (fraction % LIMB);
      limbs[1] = (int) (fraction / LIMB);
      limbCount = 2;
      int factor = exponent > 0 ? 2 : 5;
      int rest = Math.abs(exponent);
      int step = factor == 2 ? 29 : 12;
      for (int n = 0; n < MOST_DIGITS && rest > 0; n++) {
        int times = Math.min(rest, step);
        int power = 1;
        for (int i = 0; i < times; i++) {
          power *= factor;
        }
        multiply(power);
        rest -= times;
      }
      limbsToDigits();
      point = digitCount + Math.min(exponent, 0);
    }

    private void multiply(int by) {
      long carry = 0;
      for (int i = 0; i < limbCount; i++) {
        long product = (long) limbs[i] * by + carry;
        limbs[i] = (int) (product % LIMB);
        carry = product / LIMB;
      }
      if (carry > 0 && limbCount < LIMBS) {
        limbs[limbCount++] = (int) carry;
      }
    }

    private void limbsToDigits() {
      digitCount = 0;
      for (int i = limbCount - 1; i >= 0; i--) {
        int power = LIMB / 10;
        for (int n = 0; n < 9 && power > 0; n++) {
          int digit = limbs[i] / power % 10;
          if ((digitCount > 0 || digit > 0) && digitCount < MOST_DIGITS) {
            digits[digitCount++] = (byte) ('0' + digit);
          }
          power /= 10;
        }
      }
    }

    /** Rounds to so many of the digits, ties to an even last one. */
    private void roundTo(int count) {
      if (count >= digitCount) {
        return;
      }
      boolean up = false;
      if (count >= 0) {
        boolean more = false;
        for (int i = count + 1; i < digitCount; i++) {
          more |= digits[i] != '0';
        }
        boolean odd = count > 0 && (digits[count - 1] & 1) != 0;
        up = digits[count] > '5' || digits[count] == '5' && (more || odd);
      }
      digitCount = Math.max(count, 0);
      int i = digitCount - 1;
      while (up && i >= 0 && digits[i] == '9') {
        digits[i--] = '0';
      }
      if (up && i >= 0) {
        digits[i]++;
      } else if (up) {
        System.arraycopy(digits, 0, digits, 1, digitCount);
        digits[0] = '1';
        digitCount++;
        point++;
      }
    }

    // Scanning.

    private int peek(Machine m) {
      if (textAt < 0) {
        return peekByte();
      }
      int value = m.byteAt(textAt);
      return value == 0 ? -1 : value;
    }

    private void skip() {
      if (textAt < 0) {
        nextByte();
      } else {
        textAt++;
      }
    }

    private void skipBlanks(Machine m) {
      for (int n = 0; n < MANY && isBlank(peek(m)); n++) {
        skip();
      }
    }

    /** How many were stored; -1 if the input ended before. */
    private long scan(Machine m, long format) {
      formatAt = format;
      boolean goesOn = true;
      boolean ended = false;
      for (int n = 0; n < MANY && goesOn && m.outcome < 0; n++) {
        int c = formatByte(m);
        if (c == 0) {
          break;
        }
        formatAt++;
        if (isBlank(c)) {
          skipBlanks(m);
        } else if (c != '%') {
          ended = peek(m) < 0;
          goesOn = peek(m) == c;
          if (goesOn) {
            skip();
          }
        } else {
          int result = scanConversion(m);
          ended = result < 0;
          goesOn = result > 0;
        }
      }
      return !goesOn && ended && done == 0 ? -1 : done;
    }

    /** 1 if the conversion got what it wants, 0 if not, -1 if the input had ended where it begins. */
    private int scanConversion(Machine m) {
      boolean stores = formatByte(m) != '*';
      formatAt += stores ? 0 : 1;
      width = readAmount(m, false);
      readBreadth(m);
      int letter = formatByte(m);
      formatAt++;
      if (letter != 'd' && letter != 'u' && letter != 'x' && letter != 'c' && letter != 's') {
        m.trap(5);
        return 0;
      }
      if (letter != 'c') {
        skipBlanks(m);
      }
      if (peek(m) < 0) {
        return -1;
      }
      long to = stores ? argument(m, UINT) : 0;
      width = width > 0 ? width : letter == 'c' ? 1 : WIDEST;
      if (m.outcome >= 0) {
        return 0;
      }
      boolean got = letter == 'c' || letter == 's' ? scanText(m, letter, stores, to)
          : scanNumber(m, letter == 'x' ? 16 : 10, stores, to);
      done += got && stores ? 1 : 0;
      return got ? 1 : 0;
    }

    private boolean scanText(Machine m, int letter, boolean stores, long to) {
      int count = 0;
      int c = peek(m);
      while (count < width && c >= 0 && (letter == 'c' || !isBlank(c)) && m.outcome < 0) {
        if (stores) {
          m.setByte(to + count, c);
        }
        count++;
        skip();
        c = count < width ? peek(m) : -1;
      }
      if (letter == 's' && stores && m.outcome < 0) {
        m.setByte(to + count, 0);
      }
      return letter == 's' || count == width;
    }

    private boolean scanNumber(Machine m, int base, boolean stores, long to) {
      int left = width;
      int sign = peek(m);
      if (sign == '-' || sign == '+') {
        skip();
        left--;
      }
      long value = 0;
      int count = 0;
      for (int n = 0; n < MANY && left > 0; n++) {
        int c = peek(m);
        if (digitOf(c) < base) {
          value = value * base + digitOf(c);
        } else if (!(base == 16 && count == 1 && value == 0 && (c | 32) == 'x')) {
          break;
        }
        count++;
        left--;
        skip();
      }
      if (count > 0 && stores) {
        int size = breadth == AS_CHAR ? 1 : breadth == AS_SHORT ? 2 : breadth == AS_WIDE ? 8 : 4;
        if (m.outcome < 0 && m.reaches(to, size)) {
          m.write((int) to, size, sign == '-' ? -value : value);
        }
      }
      return count > 0;
    }
  }
}
