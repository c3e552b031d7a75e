import java.util.Arrays;

/**
 * A compiler for the language C as the document tells it, with its preprocessor, library and machine.
 * The parts stand in the order in which a text goes through them.
 */
public final class FlatC {
  private static final int TRAY = 65540;
  private static final int LONGEST_TEXT = 65535;
  private static final int SEATS = 16;
  private static final int COMPILINGS = 64;
  private static final int MOST_FUEL = 100000;
  /** Far above what any loop can need for which the document tells no bound. */
  private static final int MANY = 1000000;
  private static final int MOST_INT = 2147483647;
  private static final long MOST_LONG = 9223372036854775807L;
  private static final long LEAST_LONG = -9223372036854775808L;

  // The types that are no others' makings; their numbers are also the kinds of the machine's values.
  private static final int VOID = 0;
  private static final int CHAR = 1;
  private static final int UCHAR = 2;
  private static final int SHORT = 3;
  private static final int USHORT = 4;
  private static final int INT = 5;
  private static final int UINT = 6;
  private static final int LLONG = 7;
  private static final int ULLONG = 8;
  private static final int FLOAT = 9;
  private static final int DOUBLE = 10;

  // Signs and words by the numbers of their spellings: those of Pieces are spelled in this order.
  private static final int OPEN_INDEX = 0;
  private static final int CLOSE_INDEX = 1;
  private static final int OPEN = 2;
  private static final int CLOSE = 3;
  private static final int OPEN_BRACE = 4;
  private static final int CLOSE_BRACE = 5;
  private static final int DOT = 6;
  private static final int ARROW = 7;
  private static final int INCREASE = 8;
  private static final int DECREASE = 9;
  private static final int AMPERSAND = 10;
  private static final int STAR = 11;
  private static final int PLUS = 12;
  private static final int MINUS = 13;
  private static final int TILDE = 14;
  private static final int NOT = 15;
  private static final int SLASH = 16;
  private static final int PERCENT = 17;
  private static final int SHIFT_LEFT = 18;
  private static final int SHIFT_RIGHT = 19;
  private static final int LESS = 20;
  private static final int GREATER = 21;
  private static final int LESS_EQUAL = 22;
  private static final int GREATER_EQUAL = 23;
  private static final int EQUAL = 24;
  private static final int UNEQUAL = 25;
  private static final int CARET = 26;
  private static final int BAR = 27;
  private static final int AND_AND = 28;
  private static final int OR_OR = 29;
  private static final int QUESTION = 30;
  private static final int COLON = 31;
  private static final int SEMICOLON = 32;
  private static final int ELLIPSIS = 33;
  private static final int ASSIGN = 34;
  private static final int STAR_ASSIGN = 35;
  private static final int SLASH_ASSIGN = 36;
  private static final int PERCENT_ASSIGN = 37;
  private static final int PLUS_ASSIGN = 38;
  private static final int MINUS_ASSIGN = 39;
  private static final int LEFT_ASSIGN = 40;
  private static final int RIGHT_ASSIGN = 41;
  private static final int AND_ASSIGN = 42;
  private static final int XOR_ASSIGN = 43;
  private static final int OR_ASSIGN = 44;
  private static final int COMMA = 45;
  private static final int HASH = 46;
  private static final int PASTE = 47;
  private static final int K_AUTO = 48;
  private static final int K_BREAK = 49;
  private static final int K_CASE = 50;
  private static final int K_CHAR = 51;
  private static final int K_CONST = 52;
  private static final int K_CONTINUE = 53;
  private static final int K_DEFAULT = 54;
  private static final int K_DO = 55;
  private static final int K_DOUBLE = 56;
  private static final int K_ELSE = 57;
  private static final int K_ENUM = 58;
  private static final int K_EXTERN = 59;
  private static final int K_FLOAT = 60;
  private static final int K_FOR = 61;
  private static final int K_GOTO = 62;
  private static final int K_IF = 63;
  private static final int K_INLINE = 64;
  private static final int K_INT = 65;
  private static final int K_LONG = 66;
  private static final int K_REGISTER = 67;
  private static final int K_RESTRICT = 68;
  private static final int K_RETURN = 69;
  private static final int K_SHORT = 70;
  private static final int K_SIGNED = 71;
  private static final int K_SIZEOF = 72;
  private static final int K_STATIC = 73;
  private static final int K_STRUCT = 74;
  private static final int K_SWITCH = 75;
  private static final int K_TYPEDEF = 76;
  private static final int K_UNION = 77;
  private static final int K_UNSIGNED = 78;
  private static final int K_VOID = 79;
  private static final int K_VOLATILE = 80;
  private static final int K_WHILE = 81;
  private static final int K_VA_ARG = 82;
  private static final int W_DEFINE = 83;
  private static final int W_UNDEF = 84;
  private static final int W_INCLUDE = 85;
  private static final int W_IFDEF = 86;
  private static final int W_IFNDEF = 87;
  private static final int W_ELIF = 88;
  private static final int W_ENDIF = 89;
  private static final int W_ERROR = 90;
  private static final int W_PRAGMA = 91;
  private static final int W_DEFINED = 92;
  private static final int W_LINE = 93;
  private static final int W_FILE = 94;
  private static final int W_ARGUMENTS = 95;
  private static final int W_SIZE_T = 96;
  private static final int W_FILE_TYPE = 97;
  private static final int W_VA_LIST = 98;
  private static final int W_MAIN = 99;
  private static final int W_ZERO = 100;
  private static final int W_ONE = 101;
  private static final int W_HEADERS = 102;
  private static final int W_LIBRARY = 109;

  // What the parser tells the checker, in the order of the text. The number behind it (if there is one) stands in the
  // upper bits: T a token, N another number. Of declarations:
  private static final int E_DECLARATION = 1;        // T; specifiers, declarators; E_DECLARATION_END
  private static final int E_DECLARATION_END = 2;
  private static final int E_SPECIFIERS = 3;         // T; words, names, tags; E_SPECIFIERS_END
  private static final int E_SPECIFIERS_TAGGED = 4;  // T; the same, and there is a struct, union or enum
  private static final int E_WORD = 5;               // T
  private static final int E_TYPEDEF_NAME = 6;       // T
  private static final int E_SPECIFIERS_END = 7;
  private static final int E_TAG = 8;                // T: the word before the tag
  private static final int E_TAG_ALONE = 9;          // T; with ; and no other word
  private static final int E_STRUCT = 10;            // T: the word; members; E_STRUCT_END
  private static final int E_MEMBER = 11;            // specifiers, fields; E_MEMBER_END
  private static final int E_FIELD = 12;             // perhaps a declarator, perhaps a width; E_FIELD_END
  private static final int E_FIELD_END = 13;         // N: 1 with a width
  private static final int E_MEMBER_END = 14;
  private static final int E_STRUCT_END = 15;
  private static final int E_ENUM = 16;              // T: the word; enumerators; E_ENUM_END
  private static final int E_ENUMERATOR = 17;        // N: the token, twice, and 1 if its worth stands before this
  private static final int E_ENUM_END = 18;
  private static final int E_DECLARATOR = 19;        // name, arrays, parameters, pointers; E_DECLARATOR_END
  private static final int E_NAME = 20;              // T
  private static final int E_ARRAY = 21;             // behind its length
  private static final int E_ARRAY_OPEN = 22;        // without a length
  private static final int E_PARAMETERS = 23;        // N: 1 those of a definition; E_PARAMETERS_END
  private static final int E_PARAMETER = 24;         // specifiers, perhaps a declarator; E_PARAMETER_END
  private static final int E_PARAMETER_END = 25;
  private static final int E_PARAMETERS_END = 26;    // N: 1 with ...
  private static final int E_POINTERS = 27;          // N: how many
  private static final int E_DECLARATOR_END = 28;
  private static final int E_DECLARE = 29;           // N: 1 an initialiser follows, 2 a body
  private static final int E_FUNCTION = 30;          // N: 1 parameters stand behind the name; items; E_FUNCTION_END
  private static final int E_FUNCTION_END = 31;      // T: the }
  private static final int E_TYPE_NAME = 32;         // specifiers, a declarator; E_TYPE_NAME_END
  private static final int E_TYPE_NAME_END = 33;
  // Of initialisers:
  private static final int E_INITIALISER = 40;       // a part or braces; E_INITIALISER_END
  private static final int E_INITIALISER_END = 41;
  private static final int E_PART = 42;              // an expression; E_PART_END
  private static final int E_PART_END = 43;
  private static final int E_BRACE = 44;             // parts, braces, designators before them; E_BRACE_END
  private static final int E_BRACE_END = 45;
  private static final int E_DESIGNATORS = 46;
  private static final int E_ELEMENT = 47;           // behind its number
  private static final int E_MEMBER_NAME = 48;       // T
  // Of statements, each of which tells its first token and, but for the shortest, its end:
  private static final int E_BLOCK = 50;
  private static final int E_BLOCK_END = 51;
  private static final int E_EXPRESSION = 52;
  private static final int E_STATEMENT_END = 53;
  private static final int E_LABEL = 54;
  private static final int E_CASE = 55;
  private static final int E_CASE_WORTH = 56;
  private static final int E_DEFAULT = 57;
  private static final int E_IF = 58;
  private static final int E_THEN = 59;
  private static final int E_ELSE = 60;
  private static final int E_IF_END = 61;
  private static final int E_SWITCH = 62;
  private static final int E_SWITCH_BODY = 63;
  private static final int E_SWITCH_END = 64;
  private static final int E_WHILE = 65;
  private static final int E_WHILE_BODY = 66;
  private static final int E_WHILE_END = 67;
  private static final int E_DO = 68;
  private static final int E_DO_CONDITION = 69;
  private static final int E_DO_END = 70;
  private static final int E_FOR = 71;
  private static final int E_FOR_FIRST = 72;
  private static final int E_FOR_CONDITION = 73;     // N: 1 if there is one
  private static final int E_FOR_BODY = 74;          // N: 1 if there is a third part
  private static final int E_FOR_END = 75;
  private static final int E_GOTO = 76;
  private static final int E_CONTINUE = 77;
  private static final int E_BREAK = 78;
  private static final int E_RETURN = 79;
  private static final int E_RETURN_END = 80;        // N: 1 with a value
  // Of expressions: those from here on, and no others.
  private static final int E_IDENTIFIER = 90;        // T
  private static final int E_CONSTANT = 91;          // T
  private static final int E_STRING = 92;            // T
  private static final int E_SIGN = 93;              // N: a sign with an operand on its left
  private static final int E_BINARY = 94;            // N: the sign, behind its right operand
  private static final int E_LOGICAL_SIGN = 95;      // N: && or ||
  private static final int E_LOGICAL = 96;           // N: && or ||
  private static final int E_COMMA_SIGN = 97;
  private static final int E_COMMA = 98;
  private static final int E_QUESTION = 99;
  private static final int E_COLON = 100;
  private static final int E_CHOICE = 101;
  private static final int E_ASSIGN_SIGN = 102;      // N: the sign
  private static final int E_ASSIGN = 103;
  private static final int E_COMPOUND = 104;         // N: the sign
  private static final int E_PREFIX = 105;           // N: the sign, behind its operand
  private static final int E_POSTFIX = 106;          // N: the sign
  private static final int E_INDEX_SIGN = 107;
  private static final int E_INDEX = 108;
  private static final int E_CALL_SIGN = 109;
  private static final int E_ARGUMENT = 110;
  private static final int E_CALL = 111;
  private static final int E_DOT = 112;              // T: the member
  private static final int E_ARROW = 113;            // T: the member
  private static final int E_CAST = 114;
  private static final int E_SIZEOF = 115;           // an operand; E_SIZEOF_END
  private static final int E_SIZEOF_END = 116;
  private static final int E_SIZEOF_TYPE = 117;
  private static final int E_VA_LIST = 118;
  private static final int E_VA_ARG = 119;
  private static final int E_CONDITION = 120;        // the whole is a condition
  private static final int E_DROP = 121;             // its value is not wanted
  private static final int E_NOT = 122;              // !, behind its operand

  private byte[] tray = new byte[1024];
  private int trayLength;
  private byte[] source = new byte[0];
  private final byte[][] headers = new byte[SEATS][0];
  private final byte[][] headerNames = new byte[SEATS][0];
  private int headerCount;
  private byte[] input = new byte[0];
  private final byte[][] arguments = new byte[SEATS][0];
  private int argumentCount;
  private final Pieces pieces = new Pieces();
  private final Preprocessor preprocessor = new Preprocessor(pieces);
  private final Parser parser = new Parser(pieces);
  private final Checker checker = new Checker(pieces, parser);
  private final Machine machine = new Machine();
  private Program program = new Program();
  private boolean compiled;
  private boolean ran;
  private int compilings;
  private int faultPlace;
  private int faultFile = -1;

  public FlatC() {
  }

  public int feed(int a, int b, int c, int d, int e) {
    if (trayLength + 20 > TRAY) {
      return -1;
    }
    tray = grown(tray, trayLength + 20);
    putInt(a);
    putInt(b);
    putInt(c);
    putInt(d);
    putInt(e);
    return trayLength;
  }

  private void putInt(int value) {
    for (int shift = 24; shift >= 0; shift -= 8) {
      tray[trayLength++] = (byte) (value >> shift);
    }
  }

  public int end(int n) {
    if (n < 0 || n > trayLength) {
      return -1;
    }
    trayLength = n;
    return n;
  }

  public int take(int what) {
    int length = trayLength;
    if (what < 0 || what > 3 || length > LONGEST_TEXT || !taken(what)) {
      return -1;
    }
    trayLength = 0;
    return length;
  }

  private boolean taken(int what) {
    if (what == 1) {
      return takenAsHeader();
    }
    if (what == 3 && argumentCount >= SEATS) {
      return false;
    }
    byte[] text = Arrays.copyOf(tray, trayLength);
    if (what == 0) {
      source = text;
    } else if (what == 2) {
      input = text;
    } else {
      arguments[argumentCount++] = text;
    }
    return true;
  }

  private boolean takenAsHeader() {
    int name = 0;
    while (name < trayLength && tray[name] != 10) {
      name++;
    }
    int seat = seatOf(name);
    if (seat >= SEATS) {
      return false;
    }
    if (seat == headerCount) {
      headerCount++;
      headerNames[seat] = Arrays.copyOf(tray, name);
    }
    headers[seat] = Arrays.copyOfRange(tray, Math.min(name + 1, trayLength), trayLength);
    return true;
  }

  /** The header whose name the tray's first bytes are; the first free seat if there is none. */
  private int seatOf(int nameLength) {
    for (int seat = 0; seat < headerCount; seat++) {
      if (sameBytes(headerNames[seat], tray, 0, nameLength)) {
        return seat;
      }
    }
    return headerCount;
  }

  public void clear() {
    forgetHeaders();
    forgetInput();
    trayLength = 0;
  }

  private void forgetHeaders() {
    source = new byte[0];
    headerCount = 0;
  }

  private void forgetInput() {
    input = new byte[0];
    argumentCount = 0;
  }

  public int compile() {
    if (compilings >= COMPILINGS) {
      faultPlace = 0;
      faultFile = -1;
      return 5;
    }
    compilings++;
    pieces.fault = 0;
    Program made = new Program();
    preprocessor.preprocess(source, headers, headerNames, headerCount);
    if (pieces.fault == 0) {
      parser.readTokens(preprocessor.result, preprocessor.resultLength);
    }
    if (pieces.fault == 0) {
      parser.parseUnit();
    }
    if (pieces.fault == 0) {
      made.facts[Program.PIECES] = preprocessor.resultLength;
      checker.checkUnit(made);
    }
    forgetHeaders();
    faultPlace = pieces.fault == 0 ? 0 : lineOf(pieces.faultPlace);
    faultFile = pieces.fault == 0 ? -1 : fileOf(pieces.faultPlace);
    if (pieces.fault == 0) {
      program = made;
      compiled = true;
    }
    return pieces.fault;
  }

  public int faultLine() {
    return faultPlace;
  }

  public int faultText() {
    return faultFile;
  }

  public int run(int fuel) {
    if (!compiled) {
      return -1;
    }
    if (fuel < 0 || fuel > MOST_FUEL) {
      return -2;
    }
    machine.perform(program, fuel, input, arguments, argumentCount);
    forgetInput();
    ran = true;
    return machine.outcome;
  }

  public int exitCode() {
    return ran && machine.outcome == 0 ? machine.exitValue : -1;
  }

  public int trapLine() {
    return ran ? machine.lineOfTrap : 0;
  }

  public int steps() {
    return ran ? machine.stepsMade : 0;
  }

  public int written(int stream) {
    return stream == 2 || stream == 3 ? machine.library.writtenTo(stream) : -1;
  }

  public int out(int stream, int i) {
    return stream == 2 || stream == 3 ? machine.library.byteWritten(stream, i) : -1;
  }

  public int memory(int address) {
    int word = 0;
    for (int i = 0; i < 4; i++) {
      word |= machine.byteLeft((long) address + i) << 8 * i;
    }
    return word;
  }

  public int heapEnd() {
    return ran ? machine.heapEnds : 0;
  }

  public int lowest() {
    return ran ? machine.lowestStack : 0;
  }

  public int strays() {
    return ran ? machine.strayed : 0;
  }

  public int pieces() {
    return pieces.room;
  }

  public int about(int what) {
    return compiled && what >= 0 && what <= 4 ? program.facts[what] : -1;
  }

  /** A place is a line and the text that has it: 0 for the source, k + 1 for header k. */
  private static int place(int file, int line) {
    return file << 17 | line;
  }

  private static int lineOf(int place) {
    return place & 131071;
  }

  private static int fileOf(int place) {
    return place >> 17;
  }

  private static boolean sameBytes(byte[] a, byte[] b, int from, int to) {
    if (a.length != to - from) {
      return false;
    }
    for (int i = 0; i < a.length; i++) {
      if (a[i] != b[from + i]) {
        return false;
      }
    }
    return true;
  }

  /** The row itself, or a longer one with the same beginning, so that it has an element at the index. */
  private static int[] grown(int[] row, int index) {
    return index < row.length ? row : Arrays.copyOf(row, Math.max(index + 1, 2 * row.length));
  }

  private static long[] grown(long[] row, int index) {
    return index < row.length ? row : Arrays.copyOf(row, Math.max(index + 1, 2 * row.length));
  }

  private static double[] grown(double[] row, int index) {
    return index < row.length ? row : Arrays.copyOf(row, Math.max(index + 1, 2 * row.length));
  }

  private static byte[] grown(byte[] row, int index) {
    return index < row.length ? row : Arrays.copyOf(row, Math.max(index + 1, 2 * row.length));
  }

  /** The spellings, the pieces made of them, the room that they take, and the first fault. */
  private static final class Pieces {
    private static final int MOST = 16000;
    private static final int ARENA = 24512;
    private static final int HASHES = 2048;
    // What a piece can be.
    private static final int BAD = 0;
    private static final int NAME = 1;
    private static final int NUMBER = 2;
    private static final int CHARACTER = 3;
    private static final int STRING = 4;
    private static final int SIGN = 5;
    // Signs and words are spelled first of all and in this order, so that their numbers are known.
    private static final String BRACKETS_AND_OPERATORS =
        "[ ] ( ) { } . -> ++ -- & * + - ~ ! / % << >> < > <= >= == != ^ | && || ? : ; ...";
    private static final String ASSIGNMENTS_AND_THE_REST = "= *= /= %= += -= <<= >>= &= ^= |= , # ##";
    private static final int SIGNS = 48;
    private static final String KEYWORDS_TO_GOTO =
        "auto break case char const continue default do double else enum extern float for goto";
    private static final String KEYWORDS_FROM_IF =
        "if inline int long register restrict return short signed sizeof static struct switch";
    private static final String KEYWORDS_FROM_TYPEDEF = "typedef union unsigned void volatile while va_arg";
    private static final String DIRECTIVES =
        "define undef include ifdef ifndef elif endif error pragma defined __LINE__ __FILE__ __VA_ARGS__";
    private static final String STANDARD_NAMES = "size_t FILE va_list main 0 1";
    private static final String STANDARD_HEADERS =
        "stdio.h stdlib.h string.h ctype.h stdarg.h stddef.h limits.h";

    private static final String ESCAPES = "ntrabfv\\'\"?";
    private static final String ESCAPES_MEAN = "\n\t\r\007\b\f\013\\'\"?";

    private byte[] pool = new byte[8192];
    private int[] start = new int[1024];
    private int[] kind = new int[1024];
    private int[] next = new int[1024];
    private final int[] heads = new int[HASHES];
    private int count;
    /** Where the spelling that was looked for latest belongs among the heads. */
    private int hash;
    private int[] text = new int[1024];
    private int[] place = new int[1024];
    private int[] hidden = new int[1024];
    private byte[] spaced = new byte[1024];
    private int made;
    private int room;
    private int fault;
    private int faultPlace;
    private int cutKind;
    private long value;
    private int valueType;
    private double real;

    private Pieces() {
      spellAll(BRACKETS_AND_OPERATORS, SIGN);
      spellAll(ASSIGNMENTS_AND_THE_REST, SIGN);
      spellAll(KEYWORDS_TO_GOTO, NAME);
      spellAll(KEYWORDS_FROM_IF, NAME);
      spellAll(KEYWORDS_FROM_TYPEDEF, NAME);
      spellAll(DIRECTIVES, NAME);
      spellAll(STANDARD_NAMES, NAME);
      spellAll(STANDARD_HEADERS, BAD);
      kind[W_ZERO] = NUMBER;
      kind[W_ONE] = NUMBER;
    }

    /** Only the first fault is told. */
    private void fail(int code, int where) {
      if (fault == 0) {
        fault = code;
        faultPlace = where;
      }
    }

    /** Counts what is to be made; false (and a fault) if there is no room for it. */
    private boolean counted(long pieces, int where) {
      if (pieces <= MOST - room) {
        room += (int) pieces;
        return true;
      }
      if (fault == 0) {
        fault = 5;
        faultPlace = where;
      }
      return false;
    }

    /** A new piece; its number, or -1 if there is no place for one more. */
    private int make(int spelling, int where, boolean isSpaced, int hides) {
      if (made >= ARENA) {
        fail(5, where);
        return -1;
      }
      text = grown(text, made);
      place = grown(place, made);
      hidden = grown(hidden, made);
      spaced = grown(spaced, made);
      text[made] = spelling;
      place[made] = where;
      spaced[made] = (byte) (isSpaced ? 1 : 0);
      hidden[made] = hides;
      return made++;
    }

    /** Whether a blank, a comment or a new line stands right before a piece. */
    private boolean isSpaced(int piece) {
      return spaced[piece] != 0;
    }

    private static byte[] bytesOf(String s) {
      byte[] bytes = new byte[s.length()];
      for (int i = 0; i < bytes.length; i++) {
        bytes[i] = (byte) s.charAt(i);
      }
      return bytes;
    }

    /** Spells the words of a list with blanks between. */
    private void spellAll(String list, int as) {
      byte[] bytes = bytesOf(list);
      int from = 0;
      for (int i = 0; i <= bytes.length; i++) {
        if (i == bytes.length || bytes[i] == ' ') {
          spell(bytes, from, i, as);
          from = i + 1;
        }
      }
    }

    private int lengthOf(int spelling) {
      return start[spelling + 1] - start[spelling];
    }

    /** The number of a spelling; -1 if there is none like it. */
    private int find(byte[] b, int from, int to) {
      int h = to - from;
      for (int i = from; i < to; i++) {
        h = h * 31 + b[i];
      }
      hash = (h ^ h >>> 15) & HASHES - 1;
      int id = heads[hash] - 1;
      for (int n = 0; n < count && id >= 0; n++) {
        int at = start[id];
        int end = start[id + 1] - at == to - from ? to : -1;
        int i = from;
        while (i < end && pool[at] == b[i]) {
          at++;
          i++;
        }
        if (i == end) {
          return id;
        }
        id = next[id];
      }
      return -1;
    }

    /** The number of a spelling, which is a new one if there is none like it yet. */
    private int spell(byte[] b, int from, int to, int as) {
      int id = find(b, from, to);
      if (id >= 0) {
        return id;
      }
      id = count++;
      start = grown(start, id + 1);
      kind = grown(kind, id);
      next = grown(next, id);
      int length = to - from;
      pool = grown(pool, start[id] + length);
      System.arraycopy(b, from, pool, start[id], length);
      start[id + 1] = start[id] + length;
      kind[id] = as;
      next[id] = heads[hash] - 1;
      heads[hash] = id + 1;
      return id;
    }

    private static boolean isDigit(int c) {
      return c >= '0' && c <= '9';
    }

    private static boolean isLetter(int c) {
      return c >= 'a' && c <= 'z' || c >= 'A' && c <= 'Z' || c == '_';
    }

    /** Where the piece ends that begins at a byte that is no blank; cutKind tells what it is. */
    private int cut(byte[] b, int from, int end) {
      int c = b[from];
      if (isLetter(c)) {
        cutKind = NAME;
        return nameEnd(b, from, end);
      }
      if (isDigit(c) || c == '.' && from + 1 < end && isDigit(b[from + 1])) {
        cutKind = NUMBER;
        return numberEnd(b, from, end);
      }
      if (c == '\'' || c == '"') {
        return constantEnd(b, from, end);
      }
      return signEnd(b, from, end);
    }

    private int signEnd(byte[] b, int from, int end) {
      cutKind = SIGN;
      for (int length = Math.min(3, end - from); length > 0; length--) {
        int id = find(b, from, from + length);
        if (id >= 0 && id < SIGNS) {
          return from + length;
        }
      }
      cutKind = BAD;
      return from;
    }

    private static int nameEnd(byte[] b, int from, int end) {
      int i = from;
      while (i < end && (isLetter(b[i]) || isDigit(b[i]))) {
        i++;
      }
      return i;
    }

    private static int numberEnd(byte[] b, int from, int end) {
      int i = from;
      while (i < end && (isLetter(b[i]) || isDigit(b[i]) || b[i] == '.')) {
        int c = b[i] | 32;
        boolean signed = i + 1 < end && (b[i + 1] == '+' || b[i + 1] == '-');
        i += signed && (c == 'e' || c == 'p') ? 2 : 1;
      }
      return i;
    }

    private int constantEnd(byte[] b, int from, int end) {
      int quote = b[from];
      cutKind = quote == '"' ? STRING : CHARACTER;
      for (int i = from + 1; i < end && b[i] != 10; i++) {
        if (b[i] == quote) {
          return i + 1;
        }
        if (b[i] == '\\' && i + 1 < end && b[i + 1] != 10) {
          i++;
        }
      }
      cutKind = BAD;
      return from;
    }

    /** What a NUMBER is: 1 an integer, 2 a floating number (in value, real and valueType), 0 neither. */
    private int numberWorth(int id) {
      int from = start[id];
      int to = start[id + 1];
      boolean hexadecimal = to - from > 1 && pool[from] == '0' && (pool[from + 1] | 32) == 'x';
      boolean floating = false;
      for (int i = from; i < to; i++) {
        int c = pool[i] | 32;
        floating |= pool[i] == '.' || c == (hexadecimal ? 'p' : 'e');
      }
      if (floating) {
        return floatingWorth(hexadecimal ? from + 2 : from, to, hexadecimal) ? 2 : 0;
      }
      return integerWorth(from, to, hexadecimal) ? 1 : 0;
    }

    private static int digitOf(int c) {
      if (c >= '0' && c <= '9') {
        return c - '0';
      }
      int small = c | 32;
      return small >= 'a' && small <= 'z' && c >= 'A' ? small - 'a' + 10 : 99;
    }

    private boolean integerWorth(int from, int to, boolean hexadecimal) {
      int base = hexadecimal ? 16 : pool[from] == '0' ? 8 : 10;
      int i = hexadecimal ? from + 2 : from;
      int first = i;
      boolean over = false;
      value = 0;
      for (; i < to && digitOf(pool[i]) < base; i++) {
        // The upper half tells what 64 bits would lose.
        long lower = (value & 0xffffffffL) * base + digitOf(pool[i]);
        long upper = (value >>> 32) * base + (lower >>> 32);
        over |= upper >>> 32 != 0;
        value = value * base + digitOf(pool[i]);
      }
      return i > first && !over && suffixed(i, to, base == 10);
    }

    /** Reads the letters behind an integer and sets its type; false if they or it can't be. */
    private boolean suffixed(int from, int to, boolean decimal) {
      boolean unsigned = false;
      int longs = 0;
      for (int i = from; i < to; i++) {
        int c = pool[i];
        if ((c | 32) == 'u' && !unsigned) {
          unsigned = true;
        } else if ((c | 32) == 'l' && longs == 0) {
          longs = i + 1 < to && pool[i + 1] == c ? 2 : 1;
          i += longs - 1;
        } else {
          return false;
        }
      }
      boolean narrow = longs < 2;
      boolean inUint = value >= 0 && value <= 4294967295L;
      if (!unsigned && narrow && value >= 0 && value <= 2147483647) {
        valueType = INT;
      } else if (narrow && inUint && (unsigned || !decimal)) {
        valueType = UINT;
      } else if (!unsigned && value >= 0) {
        valueType = LLONG;
      } else {
        valueType = ULLONG;
        return unsigned || !decimal;
      }
      return true;
    }

    private boolean floatingWorth(int from, int to, boolean hexadecimal) {
      int base = hexadecimal ? 16 : 10;
      int most = hexadecimal ? 15 : 18;
      int digits = 0;
      int kept = 0;
      long shift = 0;
      boolean point = false;
      value = 0;
      int i = from;
      for (; i < to && (pool[i] == '.' && !point || digitOf(pool[i]) < base); i++) {
        if (pool[i] == '.') {
          point = true;
          continue;
        }
        digits++;
        shift -= point ? 1 : 0;
        if (kept < most) {
          value = value * base + digitOf(pool[i]);
          kept += value > 0 ? 1 : 0;
        } else {
          shift++;
        }
      }
      boolean told = i < to && (pool[i] | 32) == (hexadecimal ? 'p' : 'e');
      if (digits == 0 || !told && hexadecimal) {
        return false;
      }
      return exponentRead(told ? i + 1 : i, to, told, hexadecimal ? 2 : 10, hexadecimal ? 4 * shift : shift);
    }

    private boolean exponentRead(int from, int to, boolean told, int base, long shift) {
      int i = from;
      long exponent = 0;
      if (told) {
        boolean minus = i < to && pool[i] == '-';
        i += minus || i < to && pool[i] == '+' ? 1 : 0;
        int first = i;
        for (; i < to && pool[i] >= '0' && pool[i] <= '9'; i++) {
          exponent = Math.min(exponent * 10 + pool[i] - '0', 1000000000000L);
        }
        if (i == first) {
          return false;
        }
        exponent = minus ? -exponent : exponent;
      }
      int suffix = i < to ? pool[i] | 32 : 0;
      if (to - i > 1 || to > i && suffix != 'f' && suffix != 'l') {
        return false;
      }
      real = (double) value;
      long factors = Math.min(Math.abs(exponent + shift), 400);
      for (long n = 0; n < factors; n++) {
        real = exponent + shift > 0 ? real * base : real / base;
      }
      valueType = suffix == 'f' ? FLOAT : DOUBLE;
      real = suffix == 'f' ? (double) (float) real : real;
      return true;
    }

    /** Puts the bytes that a CHARACTER or STRING means behind each other; the end, -1 for a bad escape. */
    private int decode(int id, byte[] to, int at) {
      int end = start[id + 1] - 1;
      int n = at;
      for (int i = start[id] + 1; i < end; i++) {
        int c = pool[i];
        if (c == '\\') {
          int escape = escape(i + 1, end);
          if (escape == 0) {
            return -1;
          }
          c = escape >> 8;
          i += escape & 255;
        }
        to[n++] = (byte) c;
      }
      return n;
    }

    /** How many bytes an escape has behind its \, and 256 times what it means; 0 if it is none. */
    private int escape(int from, int end) {
      int c = from < end ? pool[from] : 0;
      if (c != 'x' && (c < '0' || c > '7')) {
        int which = ESCAPES.indexOf((char) c);
        return which < 0 || c == 0 ? 0 : ESCAPES_MEAN.charAt(which) << 8 | 1;
      }
      int base = c == 'x' ? 16 : 8;
      int first = c == 'x' ? from + 1 : from;
      int i = first;
      int worth = 0;
      for (; i < end && i < from + 3 && digitOf(pool[i]) < base; i++) {
        worth = worth * base + digitOf(pool[i]);
      }
      return i == first ? 0 : worth << 8 | i - from;
    }

    /** The worth of a CHARACTER is in value; false if it is not exactly one byte or escape. */
    private boolean characterWorth(int id) {
      byte[] out = new byte[lengthOf(id)];
      boolean one = decode(id, out, 0) == 1;
      value = one ? out[0] : 0;
      valueType = INT;
      return one;
    }
  }

  /** The macros, and the replacing of their names in a row of pieces. */
  private static final class Replacer {
    private static final int DEEPEST = 40;
    private static final int ROW_LIMIT = Pieces.MOST + 2;
    // What is kept of a set of hidden names: the next one with its hash, and how many words of bits it has.
    private static final int SET = 2;
    private static final int SET_NEXT = 0;
    private static final int SET_WORDS = 1;
    private static final int SET_HASHES = 1024;
    private static final int SET_SHIFT = 22;
    private static final int SET_FACTOR = 0x9e3779b1;
    /** A piece of a row that is none: an argument without pieces beside ##. */
    private static final int NOTHING = -1;
    // What is kept of a macro.
    private static final int MACRO = 6;
    private static final int M_NAME = 0;
    private static final int M_FLAGS = 1;
    private static final int M_PARAMETERS = 2;
    private static final int M_COUNT = 3;
    private static final int M_BODY = 4;
    private static final int M_END = 5;
    private static final int CALLED = 1;
    private static final int VARIADIC = 2;
    // What is kept of a macro's name that is being replaced: the macro, the name, what the row hides, the line of the
    // outermost name, where its cuts and its work begin, what of the input is not its argument's, and the next
    // place of the body to be looked at for an argument (below 0: not begun).
    private static final int CALL = 8;
    private static final int C_MACRO = 0;
    private static final int C_NAME = 1;
    private static final int C_HIDES = 2;
    private static final int C_PLACE = 3;
    private static final int C_CUTS = 4;
    private static final int C_WORK = 5;
    private static final int C_BASE = 6;
    private static final int C_AT = 7;
    // An argument's cuts: where it begins and ends as it is, and where it does when it is replaced.
    private static final int CUTS = 4;
    private static final int STANDARD = 11;
    private static final String STANDARD_1 =
        "__STDC__ 1\nNULL ((void*)0)\nEOF (-1)\nINT_MAX 2147483647\nINT_MIN (-2147483647-1)\n";
    private static final String STANDARD_2 =
        "UINT_MAX 4294967295u\nLLONG_MAX 9223372036854775807ll\nCHAR_BIT 8\n";
    private static final String STANDARD_3 =
        "stdin ((FILE*)1)\nstdout ((FILE*)2)\nstderr ((FILE*)3)\n";

    private final Pieces pieces;
    private int[] macroOf = new int[1024];
    private int[] macros = new int[64 * MACRO];
    private int macroCount;
    private int[] in = new int[1024];
    private int inTop;
    private int[] work = new int[1024];
    private int workTop;
    private int[] cuts = new int[256];
    private int cutTop;
    private final int[] calls = new int[CALL * (DEEPEST + 4)];
    private int callTop;
    private int[] row = new int[3 * 64];
    private int rowLength;
    private boolean rowOver;
    private byte[] buffer = new byte[256];
    private int[] sets = new int[256];
    private final int[] setHeads = new int[SET_HASHES];
    private int setTop = SET;
    /** The line of the directive whose condition is being replaced; -1 in a group. */
    private int directivePlace;
    private byte[][] fileNames = new byte[0][0];

    private Replacer(Pieces pieces) {
      this.pieces = pieces;
      defineStandard(Pieces.bytesOf(STANDARD_1));
      defineStandard(Pieces.bytesOf(STANDARD_2));
      defineStandard(Pieces.bytesOf(STANDARD_3));
    }

    private void defineStandard(byte[] lines) {
      int from = pieces.made;
      for (int at = 0; at < lines.length; at++) {
        if (lines[at] == 10) {
          macroOf = grown(macroOf, pieces.text[from]);
          addMacro(pieces.text[from], 0, from + 1, 0, from + 1, pieces.made);
          from = pieces.made;
        } else if (lines[at] != ' ') {
          int end = pieces.cut(lines, at, lines.length);
          pieces.make(pieces.spell(lines, at, end, pieces.cutKind), 0, false, 0);
          at = end - 1;
        }
      }
    }

    /** As before the first text: the predefined macros alone. */
    private void beginUnit(byte[][] names) {
      fileNames = names;
      Arrays.fill(macroOf, 0);
      macroCount = STANDARD;
      for (int m = 0; m < STANDARD; m++) {
        macroOf[macros[m * MACRO + M_NAME]] = m + 1;
      }
    }

    /** There must be room for one more among the macros and for the name among the names. */
    private void addMacro(int name, int flags, int parameters, int count, int body, int end) {
      int at = macroCount * MACRO;
      macros[at + M_NAME] = name;
      macros[at + M_FLAGS] = flags;
      macros[at + M_PARAMETERS] = parameters;
      macros[at + M_COUNT] = count;
      macros[at + M_BODY] = body;
      macros[at + M_END] = end;
      macroCount++;
      macroOf[name] = macroCount;
    }

    /** Where the macro of a name is kept; -1 if the name is that of none. */
    private int macroAt(int name) {
      return name < macroOf.length && macroOf[name] > 0 ? (macroOf[name] - 1) * MACRO : -1;
    }

    private boolean isMacro(int name) {
      return name == W_LINE || name == W_FILE || macroAt(name) >= 0;
    }

    private boolean isName(int piece) {
      return pieces.kind[pieces.text[piece]] == Pieces.NAME;
    }

    private boolean definable(int piece) {
      int name = pieces.text[piece];
      return isName(piece) && (name < W_DEFINED || name > W_ARGUMENTS);
    }

    /** Does a define with these pieces behind it; false if it is wrong. */
    private boolean define(int from, int to) {
      if (from >= to || !definable(from)) {
        return false;
      }
      macroOf = grown(macroOf, pieces.text[from]);
      macros = grown(macros, (macroCount + 1) * MACRO);
      if (from + 1 >= to || pieces.text[from + 1] != OPEN || pieces.isSpaced(from + 1)) {
        return bodyFits(0, 0, 0, from + 1, to) && defined(pieces.text[from], 0, from + 1, 0, from + 1, to);
      }
      int first = from + 2;
      int count = 0;
      int at = first;
      boolean rest = false;
      boolean comma = false;
      for (; at < to && !rest && (comma || at == first) && pieces.text[at] != CLOSE; at++) {
        rest = pieces.text[at] == ELLIPSIS;
        if (!rest && !parameterFits(first, count, at)) {
          return false;
        }
        count += rest ? 0 : 1;
        comma = !rest && at + 1 < to && pieces.text[at + 1] == COMMA;
        at += comma ? 1 : 0;
      }
      int flags = CALLED | (rest ? VARIADIC : 0);
      return !comma && at < to && pieces.text[at] == CLOSE && bodyFits(flags, first, count, at + 1, to)
          && defined(pieces.text[from], flags, first, count, at + 1, to);
    }

    private boolean parameterFits(int first, int count, int at) {
      int name = pieces.text[at];
      return isName(at) && name != W_ARGUMENTS && parameterOf(0, first, count, name) < 0;
    }

    private boolean undefine(int from, int to) {
      if (to - from != 1 || !definable(from)) {
        return false;
      }
      int name = pieces.text[from];
      if (name < macroOf.length) {
        macroOf[name] = 0;
      }
      return true;
    }

    /** Which parameter a name is; -1 if none. */
    private int parameterOf(int flags, int first, int count, int name) {
      for (int i = 0; i < count; i++) {
        if (pieces.text[first + 2 * i] == name) {
          return i;
        }
      }
      return (flags & VARIADIC) != 0 && name == W_ARGUMENTS ? count : -1;
    }

    private boolean bodyFits(int flags, int first, int count, int from, int to) {
      if (from < to && (pieces.text[from] == PASTE || pieces.text[to - 1] == PASTE)) {
        return false;
      }
      for (int i = from; i < to && (flags & CALLED) != 0; i++) {
        if (pieces.text[i] == HASH
            && (i + 1 >= to || parameterOf(flags, first, count, pieces.text[i + 1]) < 0)) {
          return false;
        }
      }
      return true;
    }

    private boolean defined(int name, int flags, int first, int count, int body, int end) {
      int old = macroAt(name);
      if (old < 0) {
        addMacro(name, flags, first, count, body, end);
        return true;
      }
      boolean same = macros[old + M_FLAGS] == flags && macros[old + M_COUNT] == count
          && macros[old + M_END] - macros[old + M_BODY] == end - body;
      for (int i = 0; same && i < count; i++) {
        same = pieces.text[first + 2 * i] == pieces.text[macros[old + M_PARAMETERS] + 2 * i];
      }
      for (int i = 0; same && i < end - body; i++) {
        same = pieces.text[body + i] == pieces.text[macros[old + M_BODY] + i];
      }
      return same;
    }

    /** Replaces in a row of pieces; what comes out lies in work[0 .. workTop). */
    private void replaceAll(int[] list, int count, int directive) {
      directivePlace = directive;
      inTop = 0;
      workTop = 0;
      cutTop = 0;
      callTop = 0;
      if (setTop > SET) {
        Arrays.fill(setHeads, 0);
        setTop = SET;
      }
      putIn(list, 0, count);
      boolean more = true;
      for (long n = 0; n < 1L << 40 && more && pieces.fault == 0; n++) {
        int call = callTop - CALL;
        if (inTop > (call < 0 ? 0 : calls[call + C_BASE])) {
          takePiece();
        } else if (call < 0) {
          more = false;
        } else if (calls[call + C_AT] < 0) {
          makeStrings(call);
        } else if (!takesArgument(call)) {
          buildRow(call);
          callTop = call;
          workTop = calls[call + C_WORK];
          cutTop = calls[call + C_CUTS];
          putRow(call);
        }
      }
    }

    private void putIn(int[] list, int from, int to) {
      in = grown(in, inTop + to - from);
      for (int i = to - 1; i >= from; i--) {
        in[inTop++] = list[i];
      }
    }

    private void putWork(int piece) {
      work = grown(work, workTop);
      work[workTop++] = piece;
    }

    private int faultAt(int outermost) {
      return directivePlace >= 0 ? directivePlace : outermost;
    }

    /** Takes the input's next piece: it goes to the work, or it is to be replaced. */
    private void takePiece() {
      int base = callTop > 0 ? calls[callTop - CALL + C_BASE] : 0;
      int piece = in[--inTop];
      int where = callTop > 0 ? calls[C_PLACE] : pieces.place[piece];
      int name = pieces.text[piece];
      int macro = macroAt(name);
      if (name == W_LINE || name == W_FILE) {
        putPlaceOf(piece, where, name == W_LINE);
      } else if (macro < 0 || has(pieces.hidden[piece], macro)) {
        putWork(piece);
      } else if ((macros[macro + M_FLAGS] & CALLED) == 0) {
        open(macro, piece, where);
      } else if (inTop > base && pieces.text[in[inTop - 1]] == OPEN) {
        open(macro, piece, where);
        takeArguments(callTop - CALL, base);
      } else {
        putWork(piece);
      }
    }

    private void open(int macro, int piece, int where) {
      if (callTop + CALL > calls.length) {
        pieces.fail(5, faultAt(where));
        return;
      }
      calls[callTop + C_MACRO] = macro;
      calls[callTop + C_NAME] = piece;
      calls[callTop + C_HIDES] = with(pieces.hidden[piece], macro);
      calls[callTop + C_PLACE] = where;
      calls[callTop + C_CUTS] = cutTop;
      calls[callTop + C_WORK] = workTop;
      calls[callTop + C_BASE] = inTop;
      calls[callTop + C_AT] = -1;
      callTop += CALL;
    }

    private void putPlaceOf(int piece, int where, boolean line) {
      int spelling = line ? spellLine(lineOf(where)) : spellFile(fileOf(where));
      int count = line ? 1 : eighths(pieces.lengthOf(spelling));
      if (pieces.counted(count, faultAt(where))) {
        int put = pieces.make(spelling, where, pieces.isSpaced(piece), 0);
        if (put >= 0) {
          putWork(put);
        }
      }
    }

    private int spellLine(int line) {
      int at = 10;
      for (int rest = line; rest > 0 && at > 0; rest /= 10) {
        buffer[--at] = (byte) ('0' + rest % 10);
      }
      return pieces.spell(buffer, at, 10, Pieces.NUMBER);
    }

    private int spellFile(int file) {
      byte[] name = file > 0 && file <= fileNames.length ? fileNames[file - 1] : new byte[0];
      buffer = grown(buffer, 2 * name.length + 2);
      int at = 0;
      buffer[at++] = '"';
      for (int i = 0; i < name.length; i++) {
        if (name[i] == '"' || name[i] == '\\') {
          buffer[at++] = '\\';
        }
        buffer[at++] = name[i];
      }
      buffer[at++] = '"';
      return pieces.spell(buffer, 0, at, Pieces.STRING);
    }

    private static int eighths(int bytes) {
      return (bytes + 7) / 8;
    }

    /** Takes the arguments of the latest name from the input, of which only what lies above base is there. */
    private void takeArguments(int call, int base) {
      if (call < 0 || pieces.fault != 0) {
        return;
      }
      int macro = calls[call + C_MACRO];
      int close = collect(macro, base);
      if (close < 0 || !argumentsFit(macro, calls[call + C_CUTS])) {
        pieces.fail(1, faultAt(calls[call + C_PLACE]));
        return;
      }
      int name = calls[call + C_NAME];
      calls[call + C_HIDES] = with(common(pieces.hidden[name], pieces.hidden[close]), macro);
      calls[call + C_BASE] = inTop;
    }

    /** Cuts the pieces up to the ) that fits into arguments; that ), or -1 if there is none. */
    private int collect(int macro, int base) {
      int rest = (macros[macro + M_FLAGS] & VARIADIC) != 0 ? macros[macro + M_COUNT] : MANY;
      int nest = 0;
      int found = 0;
      inTop--;
      openArgument();
      for (int n = 0; n < MANY && inTop > base; n++) {
        int piece = in[--inTop];
        int sign = pieces.text[piece];
        if (sign == CLOSE && nest == 0) {
          cuts[cutTop - CUTS + 1] = workTop;
          return piece;
        }
        if (sign == COMMA && nest == 0 && found < rest) {
          cuts[cutTop - CUTS + 1] = workTop;
          openArgument();
          found++;
        } else {
          nest += sign == OPEN ? 1 : sign == CLOSE ? -1 : 0;
          putWork(piece);
        }
      }
      return -1;
    }

    private void openArgument() {
      cuts = grown(cuts, cutTop + CUTS);
      cuts[cutTop++] = workTop;
      cuts[cutTop++] = workTop;
      cuts[cutTop++] = -1;
      cuts[cutTop++] = -1;
    }

    private boolean argumentsFit(int macro, int cutBase) {
      int found = (cutTop - cutBase) / CUTS;
      int wanted = macros[macro + M_COUNT];
      boolean none = found == 1 && cuts[cutBase] == cuts[cutBase + 1];
      if ((macros[macro + M_FLAGS] & VARIADIC) == 0) {
        return wanted == 0 ? none : found == wanted;
      }
      if (found == wanted) {
        openArgument();
        return true;
      }
      return found == wanted + 1;
    }

    private int argumentsOf(int macro) {
      return macros[macro + M_COUNT] + ((macros[macro + M_FLAGS] & VARIADIC) != 0 ? 1 : 0);
    }

    private int parameterAt(int macro, int piece) {
      if ((macros[macro + M_FLAGS] & CALLED) == 0) {
        return -1;
      }
      int first = macros[macro + M_PARAMETERS];
      return parameterOf(macros[macro + M_FLAGS], first, macros[macro + M_COUNT], pieces.text[piece]);
    }

    private boolean besidePaste(int macro, int at) {
      return at > macros[macro + M_BODY] && pieces.text[at - 1] == PASTE
          || at + 1 < macros[macro + M_END] && pieces.text[at + 1] == PASTE;
    }

    /** Puts the spelling of the string of each # behind the arguments' cuts. */
    private void makeStrings(int call) {
      int macro = calls[call + C_MACRO];
      boolean called = (macros[macro + M_FLAGS] & CALLED) != 0;
      for (int i = macros[macro + M_BODY]; called && i + 1 < macros[macro + M_END] && pieces.fault == 0; i++) {
        if (pieces.text[i] == HASH) {
          i++;
          int argument = calls[call + C_CUTS] + CUTS * parameterAt(macro, i);
          int string = stringOf(cuts[argument], cuts[argument + 1], calls[call + C_PLACE]);
          cuts = grown(cuts, cutTop);
          cuts[cutTop++] = string;
        }
      }
      calls[call + C_AT] = macros[macro + M_BODY];
    }

    private int stringOf(int from, int to, int where) {
      long length = 2;
      for (int i = from; i < to; i++) {
        length += pieces.lengthOf(pieces.text[work[i]]) + slashesIn(pieces.text[work[i]]);
        length += i > from && pieces.isSpaced(work[i]) ? 1 : 0;
      }
      if (!pieces.counted((length + 7) / 8, faultAt(where))) {
        return W_ZERO;
      }
      buffer = grown(buffer, (int) length);
      int at = 0;
      buffer[at++] = '"';
      for (int i = from; i < to; i++) {
        if (i > from && pieces.isSpaced(work[i])) {
          buffer[at++] = ' ';
        }
        at = putSlashed(pieces.text[work[i]], at);
      }
      buffer[at++] = '"';
      return pieces.spell(buffer, 0, at, Pieces.STRING);
    }

    private boolean isQuoted(int spelling) {
      return pieces.kind[spelling] == Pieces.STRING || pieces.kind[spelling] == Pieces.CHARACTER;
    }

    private int slashesIn(int spelling) {
      int slashes = 0;
      for (int i = pieces.start[spelling]; i < pieces.start[spelling + 1] && isQuoted(spelling); i++) {
        slashes += pieces.pool[i] == '"' || pieces.pool[i] == '\\' ? 1 : 0;
      }
      return slashes;
    }

    private int putSlashed(int spelling, int from) {
      int at = from;
      boolean quoted = isQuoted(spelling);
      for (int i = pieces.start[spelling]; i < pieces.start[spelling + 1]; i++) {
        if (quoted && (pieces.pool[i] == '"' || pieces.pool[i] == '\\')) {
          buffer[at++] = '\\';
        }
        buffer[at++] = pieces.pool[i];
      }
      return at;
    }

    /**
     * Puts the next argument into the input whose parameter stands in the body neither behind # nor beside ## (each
     * once); false if there is none.
     */
    private boolean takesArgument(int call) {
      int macro = calls[call + C_MACRO];
      int first = calls[call + C_CUTS];
      for (int i = calls[call + C_AT]; i < macros[macro + M_END]; i++) {
        int parameter = parameterAt(macro, i);
        int argument = first + CUTS * parameter;
        if (parameter >= 0 && cuts[argument + 2] >= 0) {
          // The first of its kind has brought it into the work, which ended where it does now.
          cuts[argument + 3] = cuts[argument + 3] < 0 ? workTop : cuts[argument + 3];
        } else if (pieces.text[i] == HASH) {
          i++;
        } else if (parameter >= 0 && !besidePaste(macro, i)) {
          if (callTop > DEEPEST * CALL) {
            pieces.fail(5, faultAt(calls[call + C_PLACE]));
          }
          cuts[argument + 2] = workTop;
          calls[call + C_AT] = i;
          putIn(work, cuts[argument], cuts[argument + 1]);
          return true;
        }
      }
      calls[call + C_AT] = macros[macro + M_END];
      return false;
    }

    /** Builds the row that a macro's name is replaced by, with # and ## done. */
    private void buildRow(int call) {
      int macro = calls[call + C_MACRO];
      int where = calls[call + C_PLACE];
      int string = calls[call + C_CUTS] + CUTS * argumentsOf(macro);
      boolean called = (macros[macro + M_FLAGS] & CALLED) != 0;
      boolean paste = false;
      rowLength = 0;
      rowOver = false;
      for (int i = macros[macro + M_BODY]; i < macros[macro + M_END] && pieces.fault == 0; i++) {
        int spelling = pieces.text[i];
        if (spelling == PASTE && !paste) {
          paste = true;
          continue;
        }
        int parameter = parameterAt(macro, i);
        if (called && spelling == HASH) {
          put(cuts[string++], pieces.isSpaced(i), 0, paste, where);
          i++;
        } else if (parameter < 0) {
          put(spelling, pieces.isSpaced(i), 0, paste, where);
        } else {
          boolean asItIs = besidePaste(macro, i);
          int argument = calls[call + C_CUTS] + CUTS * parameter + (asItIs ? 0 : 2);
          int from = cuts[argument];
          int to = cuts[argument + 1];
          if (asItIs && from >= to) {
            put(NOTHING, false, 0, paste, where);
          }
          for (int j = from; j < to; j++) {
            boolean isSpaced = j == from ? pieces.isSpaced(i) : pieces.isSpaced(work[j]);
            put(pieces.text[work[j]], isSpaced, pieces.hidden[work[j]], paste && j == from, where);
          }
        }
        paste = false;
      }
    }

    /** Puts one more piece behind the row, or makes one of it and the row's last. */
    private void put(int spelling, boolean isSpaced, int hides, boolean paste, int where) {
      int last = 3 * (rowLength - 1);
      if (paste && rowLength > 0 && row[last] != NOTHING) {
        if (spelling != NOTHING) {
          int left = pieces.lengthOf(row[last]);
          int length = left + pieces.lengthOf(spelling);
          buffer = grown(buffer, length);
          System.arraycopy(pieces.pool, pieces.start[row[last]], buffer, 0, left);
          System.arraycopy(pieces.pool, pieces.start[spelling], buffer, left, length - left);
          int end = pieces.cut(buffer, 0, length);
          int kind = pieces.cutKind;
          if (kind == Pieces.BAD || end != length) {
            pieces.fail(1, faultAt(where));
          } else if (pieces.counted(eighths(length), faultAt(where))) {
            row[last] = pieces.spell(buffer, 0, length, kind);
            row[last + 2] = common(row[last + 2], hides);
          }
        }
        return;
      }
      if (rowLength > 0 && row[last] == NOTHING) {
        rowLength--;
      } else if (rowLength >= ROW_LIMIT) {
        rowOver = true;
        rowLength--;
      }
      int at = 3 * rowLength++;
      row = grown(row, at + 2);
      row[at] = spelling;
      row[at + 1] = isSpaced ? 1 : 0;
      row[at + 2] = hides;
    }

    /** Counts the row, makes its pieces and puts them into the input. */
    private void putRow(int call) {
      int name = calls[call + C_NAME];
      int where = calls[call + C_PLACE];
      long count = rowOver ? MANY : 0;
      for (int i = 0; i < rowLength; i++) {
        int spelling = row[3 * i];
        if (spelling != NOTHING) {
          boolean string = pieces.kind[spelling] == Pieces.STRING;
          count += string ? eighths(pieces.lengthOf(spelling)) : 1;
        }
      }
      if (pieces.fault != 0 || !pieces.counted(count, faultAt(where))) {
        return;
      }
      int first = pieces.made;
      for (int i = 0; i < rowLength; i++) {
        if (row[3 * i] != NOTHING) {
          boolean isSpaced = pieces.made == first ? pieces.isSpaced(name) : row[3 * i + 1] != 0;
          pieces.make(row[3 * i], where, isSpaced, union(row[3 * i + 2], calls[call + C_HIDES]));
        }
      }
      in = grown(in, inTop + pieces.made - first);
      for (int piece = pieces.made - 1; piece >= first; piece--) {
        in[inTop++] = piece;
      }
    }

    // Sets of hidden names, good for one replacing: a set's number tells where it stands in sets, which is what is kept
    // of it and then a bit for each macro whose name is hidden, the last word not 0. Set 0 is empty.

    private boolean has(int set, int macro) {
      int word = macro / MACRO >> 5;
      return word < sets[set + SET_WORDS] && (sets[set + SET + word] >> macro / MACRO & 1) != 0;
    }

    private int with(int set, int macro) {
      int words = sets[set + SET_WORDS];
      int word = macro / MACRO >> 5;
      int most = Math.max(words, word + 1);
      sets = grown(sets, setTop + SET + most);
      for (int i = 0; i < most; i++) {
        sets[setTop + SET + i] = i < words ? sets[set + SET + i] : 0;
      }
      sets[setTop + SET + word] |= 1 << macro / MACRO;
      return kept(most);
    }

    private int union(int a, int b) {
      int larger = sets[a + SET_WORDS] < sets[b + SET_WORDS] ? b : a;
      int smaller = larger == a ? b : a;
      int most = sets[larger + SET_WORDS];
      int words = sets[smaller + SET_WORDS];
      sets = grown(sets, setTop + SET + most);
      for (int i = 0; i < most; i++) {
        sets[setTop + SET + i] = sets[larger + SET + i] | (i < words ? sets[smaller + SET + i] : 0);
      }
      return kept(most);
    }

    private int common(int a, int b) {
      int most = Math.min(sets[a + SET_WORDS], sets[b + SET_WORDS]);
      sets = grown(sets, setTop + SET + most);
      for (int i = 0; i < most; i++) {
        sets[setTop + SET + i] = sets[a + SET + i] & sets[b + SET + i];
      }
      return kept(most);
    }

    /** The number of the set whose bits stand behind the last one: it is kept if there is none like it yet. */
    private int kept(int most) {
      int words = most;
      while (words > 0 && sets[setTop + SET + words - 1] == 0) {
        words--;
      }
      int h = 0;
      for (int i = 0; i < words; i++) {
        h = ((h << 5 | h >>> 27) ^ sets[setTop + SET + i]) * SET_FACTOR;
      }
      h >>>= SET_SHIFT;
      int at = words == 0 ? 0 : setHeads[h];
      for (int n = 0; n < setTop && at > 0 && !sameAsLast(at, words); n++) {
        at = sets[at + SET_NEXT];
      }
      if (at > 0 || words == 0) {
        return at;
      }
      at = setTop;
      sets[at + SET_NEXT] = setHeads[h];
      sets[at + SET_WORDS] = words;
      setHeads[h] = at;
      setTop += SET + words;
      return at;
    }

    private boolean sameAsLast(int set, int words) {
      boolean same = sets[set + SET_WORDS] == words;
      for (int i = 0; i < words && same; i++) {
        same = sets[set + SET + i] == sets[setTop + SET + i];
      }
      return same;
    }
  }

  /** Takes the texts in one another through their directives; what is left of them are the result's pieces. */
  private static final class Preprocessor {
    private static final int MOST_TEXTS = 15;
    private static final int DEEPEST = 40;
    private static final String TRIGRAPHS = "=(/)'<!>-";
    private static final String TRIGRAPHS_MEAN = "#[\\]^{|}~";
    // What is kept of a row of branches: where its if stands, and these.
    private static final int OUTER_KEPT = 1;
    private static final int TAKEN = 2;
    private static final int KEEPING = 4;
    private static final int ELSE_SEEN = 8;
    // What is kept of an open text: where it goes on and ends, its number, and how many rows of branches are outside.
    private static final int TEXT = 4;
    private static final int T_AT = 0;
    private static final int T_END = 1;
    private static final int T_FILE = 2;
    private static final int T_IFS = 3;
    // What is to be done behind the lines that were looked at latest.
    private static final int NOTHING = 0;
    private static final int GROUP = 1;
    private static final int CONDITION = 2;
    private static final int INCLUDE = 3;

    private final Pieces pieces;
    private final Replacer replacer;
    private byte[][] headers = new byte[0][0];
    private byte[][] names = new byte[0][0];
    private int headerCount;
    // The texts that are open, the innermost last.
    private final byte[][] bytes = new byte[MOST_TEXTS][0];
    private final int[][] lines = new int[MOST_TEXTS][0];
    private final int[] texts = new int[MOST_TEXTS * TEXT];
    private int level;
    private int[] ifs = new int[64];
    private int ifTop;
    private int[] result = new int[1024];
    private int resultLength;
    /** What is wanted now, with its pieces and its line, or with its header. */
    private int wanted;
    private int[] list = new int[64];
    private int listLength;
    private int where;
    private int header;
    // A condition: the next of its pieces, how many reasons there are to work out nothing, the open operators (each
    // with what stands on its left).
    private int at;
    private int idle;
    private final long[] operators = new long[2048];
    private int operatorTop;

    private Preprocessor(Pieces pieces) {
      this.pieces = pieces;
      replacer = new Replacer(pieces);
    }

    private void preprocess(byte[] source, byte[][] texts, byte[][] textNames, int count) {
      headers = texts;
      names = textNames;
      headerCount = count;
      level = -1;
      ifTop = 0;
      resultLength = 0;
      replacer.beginUnit(textNames);
      open(source, 0);
      for (int n = 0; n < MANY && level >= 0 && pieces.fault == 0; n++) {
        wanted = NOTHING;
        goOn();
        if (pieces.fault == 0 && wanted == GROUP) {
          replacer.replaceAll(list, listLength, -1);
          keepResult();
        } else if (pieces.fault == 0 && wanted == CONDITION) {
          replacer.replaceAll(list, listLength, where);
          at = 0;
          idle = 0;
          operatorTop = 0;
          long worth = choice(0);
          endCondition(worth != 0);
        } else if (pieces.fault == 0 && wanted == INCLUDE) {
          open(headers[header], header + 1);
        }
      }
    }

    private void open(byte[] text, int file) {
      level++;
      texts[level * TEXT + T_FILE] = file;
      texts[level * TEXT + T_IFS] = ifTop;
      texts[level * TEXT + T_AT] = 0;
      bytes[level] = Arrays.copyOf(text, text.length);
      lines[level] = new int[text.length];
      checkBytes();
      if (pieces.fault == 0) {
        dropReturns();
        replaceTrigraphs();
        joinLines();
        dropComments();
      }
    }

    private int endOfText() {
      return texts[level * TEXT + T_END];
    }

    private void setEnd(int end) {
      texts[level * TEXT + T_END] = end;
    }

    private void goOnAt(int i) {
      texts[level * TEXT + T_AT] = i;
    }

    private int placeAt(int i) {
      return place(texts[level * TEXT + T_FILE], lines[level][i]);
    }

    private void checkBytes() {
      byte[] b = bytes[level];
      int line = 1;
      setEnd(b.length);
      for (int i = 0; i < b.length; i++) {
        lines[level][i] = line;
        if ((b[i] < 32 || b[i] > 126) && b[i] != 9 && b[i] != 10 && b[i] != 13) {
          pieces.fail(1, placeAt(i));
          return;
        }
        line += b[i] == 10 ? 1 : 0;
      }
    }

    private void dropReturns() {
      byte[] b = bytes[level];
      int to = 0;
      for (int i = 0; i < endOfText(); i++) {
        if (b[i] != 13) {
          move(i, to++, b[i]);
        }
      }
      setEnd(to);
    }

    private void move(int from, int to, int as) {
      bytes[level][to] = (byte) as;
      lines[level][to] = lines[level][from];
    }

    private void replaceTrigraphs() {
      byte[] b = bytes[level];
      int end = endOfText();
      int to = 0;
      for (int i = 0; i < end; i++) {
        int which = i + 2 < end && b[i] == '?' && b[i + 1] == '?' ? TRIGRAPHS.indexOf((char) b[i + 2]) : -1;
        move(i, to++, which < 0 ? b[i] : TRIGRAPHS_MEAN.charAt(which));
        i += which < 0 ? 0 : 2;
      }
      setEnd(to);
    }

    private void joinLines() {
      byte[] b = bytes[level];
      int end = endOfText();
      int to = 0;
      for (int i = 0; i < end; i++) {
        if (b[i] == '\\' && i + 1 < end && b[i + 1] == 10) {
          i++;
        } else {
          move(i, to++, b[i]);
        }
      }
      setEnd(to);
    }

    private void dropComments() {
      byte[] b = bytes[level];
      int end = endOfText();
      int to = 0;
      int quote = 0;
      for (int i = 0; i < end && pieces.fault == 0; i++) {
        int c = b[i];
        if (quote == 0 && c == '/' && i + 1 < end && (b[i + 1] == '/' || b[i + 1] == '*')) {
          int behind = b[i + 1] == '/' ? lineEnd(i) : commentEnd(i);
          move(i, to++, ' ');
          i = behind - 1;
          continue;
        }
        move(i, to++, c);
        if (quote != 0 && c == '\\' && i + 1 < end && b[i + 1] != 10) {
          i++;
          move(i, to++, b[i]);
        } else if (quote == 0 ? c == '"' || c == '\'' : c == quote || c == 10) {
          quote = quote == 0 ? c : 0;
        }
      }
      setEnd(to);
    }

    private int lineEnd(int from) {
      int i = from;
      int end = endOfText();
      while (i < end && bytes[level][i] != 10) {
        i++;
      }
      return i;
    }

    private int commentEnd(int from) {
      byte[] b = bytes[level];
      for (int i = from + 2; i + 1 < endOfText(); i++) {
        if (b[i] == '*' && b[i + 1] == '/') {
          return i + 2;
        }
      }
      pieces.fail(1, placeAt(from));
      return endOfText();
    }

    private boolean keeping() {
      return ifTop == 0 || (ifs[ifTop - 1] & KEEPING) != 0;
    }

    /** Looks at the next directive, group or line not kept of the innermost text, or closes it. */
    private void goOn() {
      int from = texts[level * TEXT + T_AT];
      if (from >= endOfText()) {
        if (ifTop > texts[level * TEXT + T_IFS]) {
          pieces.fail(1, ifs[ifTop - 2]);
        }
        level--;
      } else if (isDirective(from)) {
        directive(from);
      } else if (keeping()) {
        group(from);
      } else {
        goOnAt(lineEnd(from) + 1);
      }
    }

    private int skipBlanks(int from, int end) {
      int i = from;
      while (i < end && (bytes[level][i] == ' ' || bytes[level][i] == 9)) {
        i++;
      }
      return i;
    }

    private boolean isDirective(int from) {
      int end = endOfText();
      int i = skipBlanks(from, end);
      return i < end && bytes[level][i] == '#' && (i + 1 >= end || bytes[level][i + 1] != '#');
    }

    private void group(int from) {
      int first = pieces.made;
      int end = from;
      for (int n = 0; n < MANY && end < endOfText() && !isDirective(end) && pieces.fault == 0; n++) {
        int behind = lineEnd(end);
        cutAll(end, behind);
        end = behind + 1;
      }
      goOnAt(end);
      list = grown(list, pieces.made - first);
      listLength = 0;
      for (int i = first; i < pieces.made; i++) {
        list[listLength++] = i;
      }
      wanted = GROUP;
    }

    private void keepResult() {
      result = grown(result, resultLength + replacer.workTop);
      System.arraycopy(replacer.work, 0, result, resultLength, replacer.workTop);
      resultLength += replacer.workTop;
    }

    /** Cuts a line's bytes into pieces, which are counted. */
    private void cutAll(int from, int end) {
      byte[] b = bytes[level];
      int i = skipBlanks(from, end);
      for (int n = 0; n < MANY && i < end && pieces.fault == 0; n++) {
        int behind = pieces.cut(b, i, end);
        if (pieces.cutKind == Pieces.BAD) {
          pieces.fail(1, placeAt(i));
        } else if (pieces.counted(1, placeAt(i))) {
          boolean isSpaced = i > 0 && (b[i - 1] == ' ' || b[i - 1] == 9 || b[i - 1] == 10);
          pieces.make(pieces.spell(b, i, behind, pieces.cutKind), placeAt(i), isSpaced, 0);
        }
        i = skipBlanks(behind, end);
      }
    }

    /** Does the directive in the line that begins at a byte; of a condition it is only cut. */
    private void directive(int line) {
      int end = lineEnd(line);
      int hash = skipBlanks(line, end);
      int from = skipBlanks(hash + 1, end);
      int behind = Pieces.nameEnd(bytes[level], from, end);
      int word = behind > from ? pieces.find(bytes[level], from, behind) : -1;
      boolean branches = word == K_IF || word == W_IFDEF || word == W_IFNDEF;
      boolean next = word == W_ELIF || word == K_ELSE || word == W_ENDIF;
      int first = pieces.made;
      where = placeAt(hash);
      goOnAt(end + 1);
      if (next ? cutsNext(word) : keeping()) {
        int begin = branches || next || word == W_INCLUDE ? skipBlanks(behind, end) : from;
        if (word != W_INCLUDE || begin >= end || bytes[level][begin] != '<') {
          cutAll(begin, end);
        }
      }
      if (pieces.fault != 0) {
        return;
      }
      if (branches) {
        openBranches(word, first);
      } else if (next) {
        nextBranch(word, first);
      } else if (keeping()) {
        if (word == W_INCLUDE) {
          include(skipBlanks(behind, end), end, first);
        } else {
          simpleDirective(word, first);
        }
      }
    }

    /** Of elif, else and endif: the state of their row of branches, as if it were kept outside if there is none. */
    private int stateOfBranches() {
      return ifTop > texts[level * TEXT + T_IFS] ? ifs[ifTop - 1] : OUTER_KEPT | ELSE_SEEN;
    }

    /** Whether what stands behind an elif, else or endif is cut. */
    private boolean cutsNext(int word) {
      int state = stateOfBranches();
      return (state & OUTER_KEPT) != 0 && (word != W_ELIF || (state & ELSE_SEEN) != 0 || (state & TAKEN) == 0);
    }

    private void openBranches(int word, int first) {
      int state = 0;
      if (keeping()) {
        boolean holds = false;
        if (word == K_IF) {
          wantCondition(first);
        } else if (pieces.made == first + 1 && replacer.isName(first)) {
          holds = replacer.isMacro(pieces.text[first]) == (word == W_IFDEF);
        } else {
          pieces.fail(1, where);
        }
        state = OUTER_KEPT | (holds ? TAKEN | KEEPING : 0);
      }
      ifs = grown(ifs, ifTop + 1);
      ifs[ifTop] = where;
      ifs[ifTop + 1] = state;
      ifTop += 2;
    }

    private void nextBranch(int word, int first) {
      boolean open = ifTop > texts[level * TEXT + T_IFS];
      int state = stateOfBranches();
      if (!open || word != W_ENDIF && (state & ELSE_SEEN) != 0 || word != W_ELIF && pieces.made > first) {
        pieces.fail(1, where);
      } else if (word == W_ENDIF) {
        ifTop -= 2;
      } else {
        boolean keep = (state & OUTER_KEPT) != 0 && (state & TAKEN) == 0;
        ifs[ifTop - 1] = state & ~KEEPING;
        if (word == K_ELSE) {
          ifs[ifTop - 1] |= ELSE_SEEN | (keep ? TAKEN | KEEPING : 0);
        } else if (keep) {
          wantCondition(first);
        }
      }
    }

    private void simpleDirective(int word, int first) {
      int last = pieces.made;
      boolean right = first == last || word == W_PRAGMA;
      if (word == W_DEFINE) {
        right = replacer.define(first + 1, last);
      } else if (word == W_UNDEF) {
        right = replacer.undefine(first + 1, last);
      }
      if (!right) {
        pieces.fail(1, where);
      }
    }

    private void include(int begin, int end, int first) {
      byte[] b = bytes[level];
      int last = -1;
      if (begin < end && b[begin] == '<') {
        last = begin + 1;
        while (last < end && b[last] != '>') {
          last++;
        }
        last = last < end && skipBlanks(last + 1, end) == end ? last : -1;
      } else {
        boolean string = pieces.made == first + 1 && pieces.kind[pieces.text[first]] == Pieces.STRING;
        last = string ? begin + pieces.lengthOf(pieces.text[first]) - 1 : -1;
      }
      if (last < 0) {
        pieces.fail(1, where);
      } else {
        includeText(begin + 1, last);
      }
    }

    private void includeText(int from, int to) {
      byte[] b = bytes[level];
      header = -1;
      for (int k = 0; k < headerCount && header < 0; k++) {
        header = sameBytes(names[k], b, from, to) ? k : -1;
      }
      int spelling = header < 0 ? pieces.find(b, from, to) : -1;
      if (header < 0) {
        if (spelling < W_HEADERS || spelling >= W_LIBRARY) {
          pieces.fail(1, where);
        }
      } else if (level + 1 >= MOST_TEXTS) {
        pieces.fail(1, where);
      } else if (pieces.counted(16 + (headers[header].length + 7) / 8, where)) {
        wanted = INCLUDE;
      }
    }

    // Conditions.

    /** Lists the pieces of a condition, with a 1 or 0 for each defined. */
    private void wantCondition(int from) {
      int to = pieces.made;
      listLength = 0;
      list = grown(list, to - from);
      for (int i = from; i < to && pieces.fault == 0; i++) {
        if (pieces.text[i] != W_DEFINED) {
          list[listLength++] = i;
          continue;
        }
        boolean bracketed = i + 1 < to && pieces.text[i + 1] == OPEN;
        int name = bracketed ? i + 2 : i + 1;
        boolean closed = !bracketed || name + 1 < to && pieces.text[name + 1] == CLOSE;
        if (name >= to || !replacer.isName(name) || !closed) {
          pieces.fail(1, where);
          return;
        }
        int worth = replacer.isMacro(pieces.text[name]) ? W_ONE : W_ZERO;
        list[listLength++] = Math.max(pieces.make(worth, pieces.place[i], pieces.isSpaced(i), 0), 0);
        i = bracketed ? name + 1 : name;
      }
      wanted = CONDITION;
    }

    private void endCondition(boolean holds) {
      if (at < replacer.workTop) {
        pieces.fail(1, where);
      } else if (holds && ifTop > 0) {
        ifs[ifTop - 1] |= TAKEN | KEEPING;
      }
    }

    private int sign() {
      return pieces.fault == 0 && at < replacer.workTop ? pieces.text[replacer.work[at]] : -1;
    }

    private long wrong() {
      pieces.fail(1, where);
      return 0;
    }

    /** Looks at a depth where what is so deep begins: a piece that begins nothing is another fault. */
    private boolean tooDeep(int depth) {
      if (depth > DEEPEST && beginsOperand(sign())) {
        pieces.fail(5, where);
      }
      return pieces.fault != 0;
    }

    private boolean beginsOperand(int spelling) {
      switch (spelling < 0 ? Pieces.BAD : pieces.kind[spelling]) {
        case Pieces.NAME: case Pieces.NUMBER: case Pieces.CHARACTER:
          return true;
        default:
          return spelling == OPEN || spelling == PLUS || spelling == MINUS || spelling == TILDE || spelling == NOT;
      }
    }

    private long choice(int depth) {
      long worth = binary(depth);
      if (sign() != QUESTION) {
        return worth;
      }
      at++;
      boolean first = worth != 0;
      if (tooDeep(depth + 1)) {
        return 0;
      }
      idle += first ? 0 : 1;
      long yes = choice(depth + 1);
      idle += first ? 1 : -1;
      if (sign() != COLON) {
        return wrong();
      }
      at++;
      if (tooDeep(depth + 1)) {
        return 0;
      }
      long no = choice(depth + 1);
      idle -= first ? 1 : 0;
      return first ? yes : no;
    }

    private long binary(int depth) {
      int base = operatorTop;
      long worth = unary(depth);
      for (int n = 0; n < MANY && rankOf(sign()) > 0; n++) {
        worth = reduce(base, rankOf(sign()), worth);
        if (operatorTop + 1 >= operators.length) {
          return wrong();
        }
        boolean skips = sign() == AND_AND && worth == 0 || sign() == OR_OR && worth != 0;
        idle += skips ? 1 : 0;
        operators[operatorTop++] = sign() | (skips ? 256 : 0);
        operators[operatorTop++] = worth;
        at++;
        worth = unary(depth);
      }
      return reduce(base, 0, worth);
    }

    /** Works out the open operators of at least a rank. */
    private long reduce(int base, int rank, long right) {
      long worth = right;
      for (int n = 0; n < MANY && operatorTop > base; n++) {
        int operator = (int) operators[operatorTop - 2] & 255;
        if (rankOf(operator) < rank) {
          break;
        }
        operatorTop -= 2;
        idle -= operators[operatorTop] > 255 ? 1 : 0;
        worth = worked(operator, operators[operatorTop + 1], worth);
      }
      return worth;
    }

    private long unary(int depth) {
      int s = sign();
      if (s == PLUS || s == MINUS || s == TILDE || s == NOT) {
        at++;
        if (tooDeep(depth + 1)) {
          return 0;
        }
        long worth = unary(depth + 1);
        return s == PLUS ? worth : s == MINUS ? -worth : s == TILDE ? ~worth : worth == 0 ? 1 : 0;
      }
      if (s == OPEN) {
        if (tooDeep(depth + 1)) {
          return 0;
        }
        at++;
        long worth = choice(depth + 1);
        if (sign() != CLOSE) {
          return wrong();
        }
        at++;
        return worth;
      }
      return constant();
    }

    private long constant() {
      int s = sign();
      int kind = s < 0 ? Pieces.BAD : pieces.kind[s];
      at++;
      if (kind == Pieces.NAME) {
        return 0;
      }
      boolean right = kind == Pieces.NUMBER && pieces.numberWorth(s) == 1
          || kind == Pieces.CHARACTER && pieces.characterWorth(s);
      return right ? pieces.value : wrong();
    }

    private long worked(int operator, long a, long b) {
      boolean divides = operator == SLASH || operator == PERCENT;
      boolean shifts = operator == SHIFT_LEFT || operator == SHIFT_RIGHT;
      if (divides && b == 0 || shifts && (b < 0 || b > 63)) {
        return idle > 0 ? 0 : wrong();
      }
      switch (operator) {
        case STAR: return a * b;
        case SLASH: return b == -1 ? -a : a / b;
        case PERCENT: return b == -1 ? 0 : a % b;
        case PLUS: return a + b;
        case MINUS: return a - b;
        case SHIFT_LEFT: return a << b;
        case SHIFT_RIGHT: return a >> b;
        case AMPERSAND: return a & b;
        case CARET: return a ^ b;
        case BAR: return a | b;
        default: return holds(operator, a, b) ? 1 : 0;
      }
    }

    private static boolean holds(int operator, long a, long b) {
      switch (operator) {
        case LESS: return a < b;
        case GREATER: return a > b;
        case LESS_EQUAL: return a <= b;
        case GREATER_EQUAL: return a >= b;
        case EQUAL: return a == b;
        case UNEQUAL: return a != b;
        case AND_AND: return a != 0 && b != 0;
        default: return a != 0 || b != 0;
      }
    }
  }

  /** How strongly a sign binds that may stand between two operands; 0 for others. */
  private static int rankOf(int sign) {
    switch (sign) {
      case STAR: case SLASH: case PERCENT: return 10;
      case PLUS: case MINUS: return 9;
      case SHIFT_LEFT: case SHIFT_RIGHT: return 8;
      case LESS: case GREATER: case LESS_EQUAL: case GREATER_EQUAL: return 7;
      case EQUAL: case UNEQUAL: return 6;
      case AMPERSAND: return 5;
      case CARET: return 4;
      case BAR: return 3;
      case AND_AND: return 2;
      case OR_OR: return 1;
      default: return 0;
    }
  }

  /** Makes tokens of the pieces, looks whether they are a unit, and tells what it is made of as a row of events. */
  private static final class Parser {
    private static final int DEEPEST = 40;
    // Kinds of tokens; keywords and signs are their own kinds.
    private static final int T_NAME = 90;
    private static final int T_INTEGER = 91;
    private static final int T_FLOATING = 92;
    private static final int T_STRING = 93;
    private static final int T_END = 94;
    // Whether a declarator has an identifier.
    private static final int NAMED = 0;
    private static final int ABSTRACT = 1;
    private static final int EITHER = 2;

    private final Pieces pieces;
    // Tokens: the kind and, in the upper bits, the type; the place; and the value (of a name its spelling, of a
    // floating number its bits, of a string where it begins in the texts and, in the upper half, its length).
    private int[] kinds = new int[1024];
    private int[] places = new int[1024];
    private long[] values = new long[1024];
    private int count;
    private byte[] texts = new byte[1024];
    private int textLength;
    private int at;
    private int[] events = new int[4096];
    private int eventCount;
    private final int[] operators = new int[1024];
    private int operatorTop;
    /** Whether an identifier means a type here, by its spelling; and what it did before, to be undone. */
    private int[] meansType = new int[1024];
    private int[] undone = new int[256];
    private int undoneTop;
    // Of the latest declarator: its name, whether it ends with ( ), the event of the ( ) right behind the name,
    // and the identifiers that these ( ) declare, for the body.
    private int nameToken;
    private boolean endsWithParameters;
    private int nearEvent;
    private int[] kept = new int[64];
    private int keptCount;
    private int nest;

    private Parser(Pieces pieces) {
      this.pieces = pieces;
    }

    // Tokens.

    private void readTokens(int[] row, int length) {
      count = 0;
      textLength = 0;
      for (int i = 0; i < length && pieces.fault == 0; i++) {
        readToken(pieces.text[row[i]], pieces.place[row[i]]);
      }
    }

    private void readToken(int spelling, int where) {
      int kind = pieces.kind[spelling];
      boolean right = true;
      if (kind == Pieces.NAME) {
        addToken(spelling >= K_AUTO && spelling <= K_VA_ARG ? spelling : T_NAME, where, spelling);
      } else if (kind == Pieces.NUMBER) {
        right = readNumber(spelling, where);
      } else if (kind == Pieces.CHARACTER) {
        right = pieces.characterWorth(spelling);
        addToken(INT << 8 | T_INTEGER, where, pieces.value);
      } else if (kind == Pieces.STRING) {
        right = readString(spelling, where);
      } else {
        right = spelling != HASH && spelling != PASTE;
        addToken(spelling, where, 0);
      }
      if (!right) {
        pieces.fail(2, where);
      }
    }

    private void addToken(int kind, int where, long value) {
      kinds = grown(kinds, count);
      places = grown(places, count);
      values = grown(values, count);
      kinds[count] = kind;
      places[count] = where;
      values[count++] = value;
    }

    private boolean readNumber(int spelling, int where) {
      int worth = pieces.numberWorth(spelling);
      if (worth == 2) {
        addToken(pieces.valueType << 8 | T_FLOATING, where, Machine.bitsOf(pieces.real));
      } else {
        addToken(pieces.valueType << 8 | T_INTEGER, where, pieces.value);
      }
      return worth != 0;
    }

    private boolean readString(int spelling, int where) {
      texts = grown(texts, textLength + pieces.lengthOf(spelling));
      int end = pieces.decode(spelling, texts, textLength);
      if (end < 0) {
        return false;
      }
      if (count == 0 || kinds[count - 1] != T_STRING) {
        addToken(T_STRING, where, textLength);
      }
      values[count - 1] += (long) (end - textLength) << 32;
      textLength = end;
      return true;
    }

    // Walking over the tokens.

    private int kindAt(int i) {
      return i < count && pieces.fault == 0 ? kinds[i] & 255 : T_END;
    }

    private int kind() {
      return at < count && pieces.fault == 0 ? kinds[at] & 255 : T_END;
    }

    private void refuse() {
      if (pieces.fault == 0) {
        int i = Math.min(at, count - 1);
        pieces.fault = 3;
        pieces.faultPlace = i < 0 ? 1 : places[i];
      }
    }

    private void expect(int kind) {
      if (kind() == kind) {
        at++;
      } else {
        refuse();
      }
    }

    private boolean accept(int kind) {
      if (kind() != kind) {
        return false;
      }
      at++;
      return true;
    }

    /** Looks at a depth where what is so deep begins. */
    private boolean tooDeep(int depth) {
      if (depth > DEEPEST && at < count && pieces.fault == 0) {
        pieces.fault = 5;
        pieces.faultPlace = places[at];
      }
      return pieces.fault != 0;
    }

    /** The same for an operand: a token that begins none is another fault. */
    private boolean operandTooDeep(int depth) {
      return beginsOperand(kind()) && !isTypeName(at) && tooDeep(depth);
    }

    private static boolean beginsOperand(int kind) {
      switch (kind) {
        case T_NAME: case T_INTEGER: case T_FLOATING: case T_STRING: case OPEN: case K_VA_ARG: case K_SIZEOF:
          return true;
        default:
          return kind >= INCREASE && kind <= NOT;
      }
    }

    private void emit(int event, int number) {
      if (eventCount < events.length) {
        events[eventCount++] = number << 8 | event;
      }
    }

    private int nameAt(int token) {
      return (int) values[token];
    }

    private boolean isTypeName(int i) {
      return i < count && (kinds[i] & 255) == T_NAME && meansType[(int) values[i]] != 0 && pieces.fault == 0;
    }

    /** There must be room in both rows. */
    private void mean(int name, int what) {
      undone[undoneTop++] = name;
      undone[undoneTop++] = meansType[name];
      meansType[name] = what;
    }

    private void declare(int token, boolean asType) {
      if (token >= 0 && token < count && pieces.fault == 0) {
        mean(nameAt(token), asType ? 1 : 0);
      }
    }

    private void closeScope(int mark) {
      while (undoneTop > mark) {
        undoneTop -= 2;
        meansType[undone[undoneTop]] = undone[undoneTop + 1];
      }
    }

    private static boolean isStorage(int kind) {
      return kind == K_TYPEDEF || kind == K_EXTERN || kind == K_STATIC || kind == K_INLINE || kind == K_AUTO
          || kind == K_REGISTER;
    }

    private static boolean isQualifier(int kind) {
      return kind == K_CONST || kind == K_VOLATILE || kind == K_RESTRICT;
    }

    private static boolean isTypeWord(int kind) {
      switch (kind) {
        case K_VOID: case K_CHAR: case K_SHORT: case K_INT: case K_LONG: case K_FLOAT: case K_DOUBLE:
        case K_SIGNED: case K_UNSIGNED:
          return true;
        default:
          return false;
      }
    }

    private static boolean isTagWord(int kind) {
      return kind == K_STRUCT || kind == K_UNION || kind == K_ENUM;
    }

    /** Whether specifiers without storage begin here. */
    private boolean beginsType(int i) {
      int kind = i < count && pieces.fault == 0 ? kinds[i] & 255 : T_END;
      switch (kind) {
        case K_VOID: case K_CHAR: case K_SHORT: case K_INT: case K_LONG: case K_FLOAT: case K_DOUBLE:
        case K_SIGNED: case K_UNSIGNED: case K_CONST: case K_VOLATILE: case K_RESTRICT:
        case K_STRUCT: case K_UNION: case K_ENUM:
          return true;
        case T_NAME:
          return meansType[(int) values[i]] != 0;
        default:
          return false;
      }
    }

    private boolean beginsSpecifiers(int i) {
      return isStorage(kindAt(i)) || beginsType(i);
    }

    // Declarations.

    private void parseUnit() {
      at = 0;
      eventCount = 0;
      operatorTop = 0;
      undoneTop = 0;
      nest = 0;
      meansType = grown(meansType, pieces.count);
      Arrays.fill(meansType, 0);
      // Each token declares at most one identifier, twice if it is a parameter of a definition.
      undone = grown(undone, 4 * count + 16);
      // No token is told of by more than a few events.
      events = grown(events, 8 * count + 64);
      mean(W_SIZE_T, 1);
      mean(W_FILE_TYPE, 1);
      mean(W_VA_LIST, 1);
      for (int n = 0; n < MANY && kind() != T_END; n++) {
        declaration(0, true);
      }
    }

    private void declaration(int depth, boolean external) {
      emit(E_DECLARATION, at);
      boolean asType = specifiers(depth, true);
      boolean more = !accept(SEMICOLON);
      boolean bodyFits = external;
      for (int n = 0; n < MANY && more && pieces.fault == 0; n++) {
        nameToken = -1;
        nearEvent = -1;
        keptCount = 0;
        wholeDeclarator(depth, NAMED);
        boolean body = bodyFits && endsWithParameters && kind() == OPEN_BRACE;
        emit(E_DECLARE, body ? 2 : kind() == ASSIGN ? 1 : 0);
        declare(nameToken, asType);
        if (body) {
          functionBody(depth);
          more = false;
        } else {
          if (accept(ASSIGN)) {
            emit(E_INITIALISER, 0);
            initialiser(depth);
            emit(E_INITIALISER_END, 0);
          }
          more = accept(COMMA);
          if (!more) {
            expect(SEMICOLON);
          }
        }
        bodyFits = false;
      }
      emit(E_DECLARATION_END, 0);
    }

    private void functionBody(int depth) {
      if (nearEvent >= 0) {
        events[nearEvent] = 1 << 8 | E_PARAMETERS;
      }
      emit(E_FUNCTION, nearEvent >= 0 ? 1 : 0);
      int mark = undoneTop;
      for (int i = 0; i < keptCount; i += 2) {
        mean(kept[i], kept[i + 1]);
      }
      if (!tooDeep(depth + 1)) {
        at++;
        items(depth + 1);
        emit(E_FUNCTION_END, at);
        expect(CLOSE_BRACE);
      }
      closeScope(mark);
    }

    /** Reads specifiers; true if typedef is one of them. */
    private boolean specifiers(int depth, boolean storage) {
      int begin = eventCount;
      int first = at;
      boolean typed = false;
      boolean asType = false;
      emit(E_SPECIFIERS, at);
      for (int n = 0; n < MANY && pieces.fault == 0; n++) {
        int kind = kind();
        if (isQualifier(kind) || isTypeWord(kind) || storage && isStorage(kind)) {
          asType |= kind == K_TYPEDEF;
          typed |= isTypeWord(kind);
          emit(E_WORD, at++);
        } else if (isTagWord(kind)) {
          events[begin] = first << 8 | E_SPECIFIERS_TAGGED;
          typed = true;
          tagged(depth, first);
        } else if (!typed && isTypeName(at)) {
          typed = true;
          emit(E_TYPEDEF_NAME, at++);
        } else {
          break;
        }
      }
      if (at == first) {
        refuse();
      }
      emit(E_SPECIFIERS_END, 0);
      return asType;
    }

    private void tagged(int depth, int first) {
      int word = at++;
      boolean named = accept(T_NAME);
      if (kind() != OPEN_BRACE) {
        boolean alone = word == first && kind() == SEMICOLON && kinds[word] != K_ENUM;
        emit(alone ? E_TAG_ALONE : E_TAG, word);
        if (!named) {
          refuse();
        }
      } else if (!tooDeep(depth + 1)) {
        at++;
        if (kinds[word] == K_ENUM) {
          enumerators(depth + 1, word);
        } else {
          members(depth + 1, word);
        }
      }
    }

    private void enumerators(int depth, int word) {
      emit(E_ENUM, word);
      boolean more = true;
      for (int n = 0; n < MANY && more && pieces.fault == 0; n++) {
        int name = at;
        expect(T_NAME);
        boolean told = accept(ASSIGN);
        if (told) {
          conditional(depth, false);
        }
        emit(E_ENUMERATOR, 2 * name + (told ? 1 : 0));
        declare(name, false);
        more = accept(COMMA) && kind() != CLOSE_BRACE;
      }
      expect(CLOSE_BRACE);
      emit(E_ENUM_END, 0);
    }

    private void members(int depth, int word) {
      emit(E_STRUCT, word);
      for (int n = 0; n < MANY && kind() != CLOSE_BRACE && pieces.fault == 0; n++) {
        emit(E_MEMBER, 0);
        specifiers(depth, false);
        boolean more = true;
        for (int m = 0; m < MANY && more && pieces.fault == 0; m++) {
          emit(E_FIELD, 0);
          if (kind() != COLON) {
            wholeDeclarator(depth, NAMED);
          }
          boolean wide = accept(COLON);
          if (wide) {
            conditional(depth, false);
          }
          emit(E_FIELD_END, wide ? 1 : 0);
          more = accept(COMMA);
        }
        expect(SEMICOLON);
        emit(E_MEMBER_END, 0);
      }
      expect(CLOSE_BRACE);
      emit(E_STRUCT_END, 0);
    }

    private void wholeDeclarator(int depth, int mode) {
      emit(E_DECLARATOR, 0);
      declarator(depth, mode);
      emit(E_DECLARATOR_END, 0);
    }

    private boolean beginsDeclarator(int mode) {
      int kind = kind();
      return kind == STAR || kind == OPEN || kind == T_NAME && mode != ABSTRACT
          || kind == OPEN_INDEX && mode != NAMED;
    }

    /** The pointers are told last, behind what binds stronger. */
    private void declarator(int depth, int mode) {
      int stars = 0;
      for (int n = 0; n < MANY && accept(STAR); n++) {
        stars++;
        for (int m = 0; m < MANY && isQualifier(kind()); m++) {
          at++;
        }
        if (beginsDeclarator(mode) && tooDeep(depth + stars)) {
          return;
        }
      }
      direct(depth + stars, mode);
      if (stars > 0) {
        emit(E_POINTERS, stars);
      }
    }

    private void direct(int depth, int mode) {
      boolean near = false;
      endsWithParameters = false;
      if (kind() == T_NAME && mode != ABSTRACT) {
        emit(E_NAME, at);
        nameToken = at++;
        near = true;
      } else if (kind() == OPEN && (mode == NAMED || !beginsParameters(at + 1))) {
        if (tooDeep(depth + 1)) {
          return;
        }
        at++;
        if (beginsDeclarator(mode)) {
          declarator(depth + 1, mode);
        } else {
          refuse();
        }
        expect(CLOSE);
        endsWithParameters = false;
      } else if (mode == NAMED) {
        refuse();
      }
      for (int n = 0; n < MANY && (kind() == OPEN_INDEX || kind() == OPEN); n++) {
        if (tooDeep(depth + 1)) {
          return;
        }
        suffix(depth + 1, near);
        near = false;
      }
    }

    private boolean beginsParameters(int i) {
      return kindAt(i) == CLOSE || beginsType(i);
    }

    /** Reads [ ] or ( ); what declarators in it leave behind is forgotten. */
    private void suffix(int depth, boolean near) {
      int name = nameToken;
      int event = nearEvent;
      boolean array = accept(OPEN_INDEX);
      nest++;
      if (!array) {
        event = near && nest == 1 ? eventCount : event;
        at++;
        parameters(depth, near && nest == 1);
      } else if (accept(CLOSE_INDEX)) {
        emit(E_ARRAY_OPEN, 0);
      } else {
        conditional(depth, false);
        expect(CLOSE_INDEX);
        emit(E_ARRAY, 0);
      }
      nest--;
      nameToken = name;
      nearEvent = event;
      endsWithParameters = !array;
    }

    private void parameters(int depth, boolean keep) {
      int mark = undoneTop;
      boolean rest = false;
      emit(E_PARAMETERS, 0);
      boolean more = kind() != CLOSE;
      if (kind() == K_VOID && kindAt(at + 1) == CLOSE) {
        at++;
        more = false;
      }
      for (int n = 0; n < MANY && more && pieces.fault == 0; n++) {
        emit(E_PARAMETER, 0);
        boolean asType = specifiers(depth, true);
        nameToken = -1;
        if (kind() != COMMA && kind() != CLOSE) {
          wholeDeclarator(depth, EITHER);
        }
        emit(E_PARAMETER_END, 0);
        declare(nameToken, asType);
        more = accept(COMMA);
        rest = more && accept(ELLIPSIS);
        more &= !rest;
      }
      expect(CLOSE);
      emit(E_PARAMETERS_END, rest ? 1 : 0);
      if (keep) {
        keepNames(mark);
      }
      closeScope(mark);
    }

    private void keepNames(int mark) {
      keptCount = 0;
      kept = grown(kept, undoneTop - mark);
      for (int i = mark; i < undoneTop; i += 2) {
        kept[keptCount++] = undone[i];
        kept[keptCount++] = meansType[undone[i]];
      }
    }

    private void typeName(int depth) {
      emit(E_TYPE_NAME, 0);
      specifiers(depth, false);
      wholeDeclarator(depth, ABSTRACT);
      emit(E_TYPE_NAME_END, 0);
    }

    private void initialiser(int depth) {
      if (kind() != OPEN_BRACE) {
        emit(E_PART, 0);
        conditional(depth, true);
        emit(E_PART_END, 0);
        return;
      }
      if (tooDeep(depth + 1)) {
        return;
      }
      at++;
      emit(E_BRACE, 0);
      boolean more = true;
      for (int n = 0; n < MANY && more && kind() != CLOSE_BRACE && pieces.fault == 0; n++) {
        designators(depth + 1);
        initialiser(depth + 1);
        more = accept(COMMA);
      }
      expect(CLOSE_BRACE);
      emit(E_BRACE_END, 0);
    }

    private void designators(int depth) {
      int first = at;
      if (kind() == OPEN_INDEX || kind() == DOT) {
        emit(E_DESIGNATORS, 0);
      }
      for (int n = 0; n < MANY && (kind() == OPEN_INDEX || kind() == DOT); n++) {
        if (accept(DOT)) {
          emit(E_MEMBER_NAME, at);
          expect(T_NAME);
        } else {
          if (tooDeep(depth + 1)) {
            return;
          }
          at++;
          conditional(depth + 1, false);
          expect(CLOSE_INDEX);
          emit(E_ELEMENT, 0);
        }
      }
      if (at > first) {
        expect(ASSIGN);
      }
    }

    // Statements.

    private void items(int depth) {
      for (int n = 0; n < MANY && kind() != CLOSE_BRACE && kind() != T_END; n++) {
        if (beginsSpecifiers(at) && !(isTypeName(at) && kindAt(at + 1) == COLON)) {
          declaration(depth, false);
        } else {
          statement(depth);
        }
      }
    }

    private static boolean beginsStatement(int kind) {
      switch (kind) {
        case OPEN_BRACE: case SEMICOLON: case K_IF: case K_SWITCH: case K_WHILE: case K_DO: case K_FOR: case K_GOTO:
        case K_CONTINUE: case K_BREAK: case K_RETURN: case K_CASE: case K_DEFAULT:
          return true;
        default:
          return beginsOperand(kind);
      }
    }

    private void statement(int depth) {
      int kind = kind();
      if (beginsStatement(kind) && tooDeep(depth)) {
        return;
      }
      switch (kind) {
        case OPEN_BRACE: block(depth); return;
        case SEMICOLON: at++; return;
        case K_CASE: case K_DEFAULT: caseStatement(depth); return;
        case K_IF: ifStatement(depth); return;
        case K_SWITCH: switchStatement(depth); return;
        case K_WHILE: whileStatement(depth); return;
        case K_DO: doStatement(depth); return;
        case K_FOR: forStatement(depth); return;
        case K_GOTO: case K_CONTINUE: case K_BREAK: jump(kind); return;
        case K_RETURN: returnStatement(depth); return;
        default: simpleStatement(depth);
      }
    }

    /** A label with its statement, or an expression. */
    private void simpleStatement(int depth) {
      if (kind() == T_NAME && kindAt(at + 1) == COLON) {
        emit(E_LABEL, at);
        at += 2;
        statement(depth + 1);
        emit(E_STATEMENT_END, 0);
        return;
      }
      if (isTypeName(at)) {
        // So far it could be a label: it is the token behind that can't be.
        at++;
        refuse();
        return;
      }
      emit(E_EXPRESSION, at);
      expression(depth);
      emit(E_DROP, 0);
      expect(SEMICOLON);
      emit(E_STATEMENT_END, 0);
    }

    private void block(int depth) {
      if (tooDeep(depth + 1)) {
        return;
      }
      int mark = undoneTop;
      at++;
      emit(E_BLOCK, 0);
      items(depth + 1);
      expect(CLOSE_BRACE);
      emit(E_BLOCK_END, 0);
      closeScope(mark);
    }

    private void caseStatement(int depth) {
      boolean isCase = kind() == K_CASE;
      emit(isCase ? E_CASE : E_DEFAULT, at++);
      if (isCase) {
        conditional(depth, false);
        emit(E_CASE_WORTH, 0);
      }
      expect(COLON);
      statement(depth + 1);
      emit(E_STATEMENT_END, 0);
    }

    private void inBrackets(int depth) {
      if (kind() != OPEN) {
        refuse();
      } else if (!tooDeep(depth)) {
        at++;
        expression(depth);
        expect(CLOSE);
      }
    }

    private void ifStatement(int depth) {
      emit(E_IF, at++);
      inBrackets(depth + 1);
      emit(E_CONDITION, 0);
      emit(E_THEN, 0);
      statement(depth + 1);
      if (accept(K_ELSE)) {
        emit(E_ELSE, 0);
        statement(depth + 1);
      }
      emit(E_IF_END, 0);
    }

    private void switchStatement(int depth) {
      emit(E_SWITCH, at++);
      inBrackets(depth + 1);
      emit(E_SWITCH_BODY, 0);
      statement(depth + 1);
      emit(E_SWITCH_END, 0);
    }

    private void whileStatement(int depth) {
      emit(E_WHILE, at++);
      inBrackets(depth + 1);
      emit(E_CONDITION, 0);
      emit(E_WHILE_BODY, 0);
      statement(depth + 1);
      emit(E_WHILE_END, 0);
    }

    private void doStatement(int depth) {
      emit(E_DO, at++);
      statement(depth + 1);
      expect(K_WHILE);
      emit(E_DO_CONDITION, 0);
      inBrackets(depth + 1);
      emit(E_CONDITION, 0);
      expect(SEMICOLON);
      emit(E_DO_END, 0);
    }

    private void forStatement(int depth) {
      int mark = undoneTop;
      emit(E_FOR, at++);
      if (kind() != OPEN) {
        refuse();
      }
      if (tooDeep(depth + 1)) {
        return;
      }
      at++;
      if (beginsSpecifiers(at)) {
        declaration(depth + 1, false);
      } else {
        expressionUpTo(depth + 1, SEMICOLON, E_DROP);
      }
      emit(E_FOR_FIRST, 0);
      emit(E_FOR_CONDITION, expressionUpTo(depth + 1, SEMICOLON, E_CONDITION));
      emit(E_FOR_BODY, expressionUpTo(depth + 1, CLOSE, E_DROP));
      statement(depth + 1);
      emit(E_FOR_END, 0);
      closeScope(mark);
    }

    /** Reads an expression, if there is one before a sign, with what is told of it; 1 if there is one. */
    private int expressionUpTo(int depth, int sign, int event) {
      boolean one = kind() != sign;
      if (one) {
        expression(depth);
        emit(event, 0);
      }
      expect(sign);
      return one ? 1 : 0;
    }

    private void jump(int kind) {
      emit(kind == K_GOTO ? E_GOTO : kind == K_CONTINUE ? E_CONTINUE : E_BREAK, at++);
      if (kind == K_GOTO) {
        expect(T_NAME);
      }
      expect(SEMICOLON);
      emit(E_STATEMENT_END, 0);
    }

    private void returnStatement(int depth) {
      emit(E_RETURN, at++);
      boolean worth = kind() != SEMICOLON;
      if (worth) {
        expression(depth);
      }
      expect(SEMICOLON);
      emit(E_RETURN_END, worth ? 1 : 0);
    }

    // Expressions.

    private void expression(int depth) {
      conditional(depth, true);
      for (int n = 0; n < MANY && kind() == COMMA; n++) {
        emit(E_COMMA_SIGN, 0);
        at++;
        conditional(depth, true);
        emit(E_COMMA, 0);
      }
    }

    private static boolean isAssignment(int kind) {
      return kind >= ASSIGN && kind <= OR_ASSIGN;
    }

    /** A conditional, or an assignment where that may stand. */
    private void conditional(int depth, boolean assigns) {
      boolean unary = operand(depth, true);
      int sign = kind();
      if (assigns && unary && isAssignment(sign)) {
        emit(E_ASSIGN_SIGN, sign);
        at++;
        if (!operandTooDeep(depth + 1)) {
          conditional(depth + 1, true);
          emit(sign == ASSIGN ? E_ASSIGN : E_COMPOUND, sign);
        }
        return;
      }
      binaries(depth);
      if (kind() != QUESTION) {
        return;
      }
      emit(E_QUESTION, 0);
      at++;
      if (operandTooDeep(depth + 1)) {
        return;
      }
      expression(depth + 1);
      emit(E_COLON, 0);
      expect(COLON);
      if (!operandTooDeep(depth + 1)) {
        conditional(depth + 1, false);
        emit(E_CHOICE, 0);
      }
    }

    /** What follows the first operand of a row of binary operators. */
    private void binaries(int depth) {
      int base = operatorTop;
      for (int n = 0; n < MANY && rankOf(kind()) > 0; n++) {
        int sign = kind();
        reduce(base, rankOf(sign));
        if (operatorTop >= operators.length) {
          refuse();
          return;
        }
        emit(rankOf(sign) < 3 ? E_LOGICAL_SIGN : E_SIGN, sign);
        operators[operatorTop++] = sign;
        at++;
        operand(depth, true);
      }
      reduce(base, 0);
    }

    private void reduce(int base, int rank) {
      while (operatorTop > base && rankOf(operators[operatorTop - 1]) >= rank) {
        operatorTop--;
        emit(rankOf(operators[operatorTop]) < 3 ? E_LOGICAL : E_BINARY, operators[operatorTop]);
      }
    }

    /** A cast or a unary; false if it is a cast. */
    private boolean operand(int depth, boolean castFits) {
      int kind = kind();
      if (kind == OPEN && beginsType(at + 1)) {
        if (tooDeep(depth + 1)) {
          return false;
        }
        at++;
        if (!castFits) {
          refuse();
          return false;
        }
        typeName(depth + 1);
        expect(CLOSE);
        if (!operandTooDeep(depth + 1)) {
          operand(depth + 1, true);
          emit(E_CAST, 0);
        }
        return false;
      }
      if (kind == K_SIZEOF) {
        at++;
        boolean ofType = kind() == OPEN && beginsType(at + 1);
        if (ofType ? tooDeep(depth + 1) : operandTooDeep(depth + 1)) {
          return true;
        }
        if (ofType) {
          at++;
          typeName(depth + 1);
          expect(CLOSE);
          emit(E_SIZEOF_TYPE, 0);
        } else {
          emit(E_SIZEOF, 0);
          operand(depth + 1, false);
          emit(E_SIZEOF_END, 0);
        }
        return true;
      }
      if (kind < INCREASE || kind > NOT) {
        postfix(depth);
        return true;
      }
      at++;
      if (!operandTooDeep(depth + 1)) {
        operand(depth + 1, kind != INCREASE && kind != DECREASE);
        emit(kind == NOT ? E_NOT : E_PREFIX, kind);
      }
      return true;
    }

    private void postfix(int depth) {
      primary(depth);
      boolean more = true;
      for (int n = 0; n < MANY && more; n++) {
        int kind = kind();
        if (kind == INCREASE || kind == DECREASE) {
          emit(E_POSTFIX, kind);
          at++;
        } else if (kind == DOT || kind == ARROW) {
          at++;
          emit(kind == DOT ? E_DOT : E_ARROW, at);
          expect(T_NAME);
        } else {
          more = (kind == OPEN || kind == OPEN_INDEX) && !tooDeep(depth + 1);
          if (more) {
            at++;
            emit(kind == OPEN ? E_CALL_SIGN : E_INDEX_SIGN, at - 1);
            bracketed(depth + 1, kind == OPEN);
          }
        }
      }
    }

    private void bracketed(int depth, boolean call) {
      if (!call) {
        expression(depth);
        expect(CLOSE_INDEX);
        emit(E_INDEX, 0);
        return;
      }
      boolean more = kind() != CLOSE;
      for (int n = 0; n < MANY && more && pieces.fault == 0; n++) {
        conditional(depth, true);
        emit(E_ARGUMENT, 0);
        more = accept(COMMA);
      }
      expect(CLOSE);
      emit(E_CALL, 0);
    }

    private void primary(int depth) {
      int kind = kind();
      if (kind == T_NAME && !isTypeName(at)) {
        emit(E_IDENTIFIER, at++);
      } else if (kind == T_INTEGER || kind == T_FLOATING) {
        emit(E_CONSTANT, at++);
      } else if (kind == T_STRING) {
        emit(E_STRING, at++);
      } else if (kind == OPEN) {
        if (!tooDeep(depth + 1)) {
          at++;
          expression(depth + 1);
          expect(CLOSE);
        }
      } else if (kind == K_VA_ARG) {
        at++;
        vaArgument(depth + 1);
      } else {
        refuse();
      }
    }

    private void vaArgument(int depth) {
      if (kind() != OPEN) {
        refuse();
      } else if (!tooDeep(depth)) {
        at++;
        conditional(depth, true);
        emit(E_VA_LIST, 0);
        expect(COMMA);
        typeName(depth);
        expect(CLOSE);
        emit(E_VA_ARG, 0);
      }
    }
  }

  /** The types of a unit. Two types are the same if they have the same number. */
  private static final class Types {
    // Kinds of types; of the types that are no others' makings the number is the kind.
    private static final int POINTER = 11;
    private static final int ARRAY = 12;
    private static final int FUNCTION = 13;
    private static final int STRUCT = 14;
    private static final int UNION = 15;
    /** No size (but also of a function), no member, no length. */
    private static final int NONE = -1;
    private static final int LARGEST = 262144;
    // Types that are there in every unit: FILE, char *, void *, FILE *, char **, what qsort and atexit call.
    private static final int FILE = 11;
    private static final int TEXT = 12;
    private static final int BYTES = 13;
    private static final int STREAM = 14;
    private static final int TEXTS = 15;
    private static final int COMPARING = 16;
    private static final int LEAVING = 18;
    private static final int RESERVE = 64;

    private int[] kind = new int[256];
    /** Of what it is a pointer or an array; what a function answers. */
    private int[] of = new int[256];
    /** The length of an array (0: not told), how many parameters and whether ... (the lowest bit). */
    private int[] count = new int[256];
    /** The first parameter or member. */
    private int[] first = new int[256];
    private int[] size = new int[256];
    private int[] alignment = new int[256];
    private int[] pointerTo = new int[256];
    private int[] derived = new int[256];
    private int[] nextDerived = new int[256];
    private int total;
    private int[] memberName = new int[64];
    private int[] memberType = new int[64];
    private int[] memberOffset = new int[64];
    /** Of a bit-field how far up it lies, times 256, and its width; else NONE. */
    private int[] memberBits = new int[64];
    private int[] nextMember = new int[64];
    private int members;
    private int[] parameters = new int[128];
    private int parameterTotal;
    private int standardTotal;
    private int standardParameters;

    private Types() {
      addBasic(NONE);
      for (int type = CHAR; type <= DOUBLE; type++) {
        addBasic(type >= INT ? type == LLONG || type == ULLONG || type == DOUBLE ? 8 : 4 : type < SHORT ? 1 : 2);
      }
      newStruct(STRUCT);
      pointer(CHAR);
      pointer(VOID);
      pointer(FILE);
      pointer(TEXT);
      addParameter(BYTES);
      addParameter(BYTES);
      function(INT, 0, 2, false);
      function(VOID, 0, 0, false);
    }

    private void addBasic(int bytes) {
      int type = add(total, 0, 0);
      size[type] = bytes;
      alignment[type] = bytes == NONE ? 1 : Math.min(bytes, 4);
    }

    /** What there is now will be there in every unit. */
    private void keepStandard() {
      standardTotal = total;
      standardParameters = parameterTotal;
    }

    private void beginUnit() {
      total = standardTotal;
      parameterTotal = standardParameters;
      members = 0;
      for (int type = 0; type < total; type++) {
        pointerTo[type] = pointerTo[type] < total ? pointerTo[type] : 0;
        int at = derived[type];
        for (int n = 0; n < MANY && at >= total; n++) {
          at = nextDerived[at];
        }
        derived[type] = at;
      }
    }

    /** Sees that a few more types can be added. */
    private void reserve() {
      int most = total + RESERVE;
      if (most >= kind.length) {
        kind = grown(kind, most);
        of = grown(of, most);
        count = grown(count, most);
        first = grown(first, most);
        size = grown(size, most);
        alignment = grown(alignment, most);
        pointerTo = grown(pointerTo, most);
        derived = grown(derived, most);
        nextDerived = grown(nextDerived, most);
      }
    }

    private int add(int as, int base, int number) {
      if (total >= nextDerived.length) {
        return VOID;
      }
      int type = total++;
      kind[type] = as;
      of[type] = base;
      count[type] = number;
      first[type] = NONE;
      size[type] = NONE;
      alignment[type] = 1;
      pointerTo[type] = 0;
      derived[type] = 0;
      return type;
    }

    private int pointer(int to) {
      if (pointerTo[to] == 0) {
        int type = add(POINTER, to, 0);
        size[type] = 4;
        alignment[type] = 4;
        pointerTo[to] = type;
      }
      return pointerTo[to];
    }

    /** An array type, and a pointer type to its elements; its size may be too large. */
    private int array(int element, int length) {
      int at = derived[element];
      for (int n = 0; n < total && at > 0; n++) {
        if (kind[at] == ARRAY && count[at] == length) {
          return at;
        }
        at = nextDerived[at];
      }
      int type = add(ARRAY, element, length);
      size[type] = length == 0 ? NONE : (int) Math.min((long) length * size[element], MOST_INT);
      alignment[type] = alignment[element];
      derive(element, type);
      pointer(element);
      return type;
    }

    private void derive(int base, int type) {
      nextDerived[type] = derived[base];
      derived[base] = type;
    }

    private void addParameter(int type) {
      parameters = grown(parameters, parameterTotal);
      parameters[parameterTotal++] = type;
    }

    /** The type of functions with the parameters from a number on, and a pointer type to them. */
    private int function(int answer, int from, int length, boolean rest) {
      int number = length * 2 + (rest ? 1 : 0);
      int at = derived[answer];
      for (int n = 0; n < total && at > 0; n++) {
        if (kind[at] == FUNCTION && count[at] == number && sameParameters(first[at], from, length)) {
          return at;
        }
        at = nextDerived[at];
      }
      int type = add(FUNCTION, answer, number);
      first[type] = from;
      derive(answer, type);
      pointer(type);
      return type;
    }

    private boolean sameParameters(int a, int b, int length) {
      for (int i = 0; i < length; i++) {
        if (parameters[a + i] != parameters[b + i]) {
          return false;
        }
      }
      return true;
    }

    private int newStruct(int as) {
      return add(as, 0, 0);
    }

    private int addMember(int name, int type, int offset, int bits) {
      int member = members++;
      memberName = grown(memberName, member);
      memberType = grown(memberType, member);
      memberOffset = grown(memberOffset, member);
      memberBits = grown(memberBits, member);
      nextMember = grown(nextMember, member);
      memberName[member] = name;
      memberType[member] = type;
      memberOffset[member] = offset;
      memberBits[member] = bits;
      nextMember[member] = NONE;
      return member;
    }

    private int memberCalled(int struct, int name) {
      int member = first[struct];
      for (int n = 0; n < members && member >= 0; n++) {
        if (memberName[member] == name) {
          return member;
        }
        member = nextMember[member];
      }
      return NONE;
    }

    private int parameterCount(int function) {
      return count[function] >> 1;
    }

    private boolean takesMore(int function) {
      return (count[function] & 1) != 0;
    }

    private boolean isComplete(int type) {
      return size[type] >= 0;
    }

    private boolean isInteger(int type) {
      return type >= CHAR && type <= ULLONG;
    }

    private boolean isArithmetic(int type) {
      return type >= CHAR && type <= DOUBLE;
    }

    private boolean isPointer(int type) {
      return kind[type] == POINTER;
    }

    private boolean isScalar(int type) {
      return isArithmetic(type) || isPointer(type);
    }

    private boolean isRecord(int type) {
      return kind[type] == STRUCT || kind[type] == UNION;
    }

    private boolean isArray(int type) {
      return kind[type] == ARRAY;
    }

    private boolean isFunction(int type) {
      return kind[type] == FUNCTION;
    }

    private boolean isText(int type) {
      return isArray(type) && (of[type] == CHAR || of[type] == UCHAR);
    }

    /** How the machine keeps a value of a scalar type. */
    private int machineKind(int type) {
      return isPointer(type) ? UINT : type;
    }

    private static boolean isReal(int type) {
      return type == FLOAT || type == DOUBLE;
    }

    private static int promoted(int type) {
      return type >= CHAR && type < INT ? INT : type;
    }

    /** The type in which two arithmetic operands are worked on. */
    private static int usual(int a, int b) {
      return Math.max(promoted(a), promoted(b));
    }

    /** Lowest bits of an integer, as a value of an integer type. */
    private static long cut(int type, long value) {
      switch (type) {
        case CHAR: return (byte) value;
        case UCHAR: return value & 255;
        case SHORT: return (short) value;
        case USHORT: return value & 65535;
        case INT: return (int) value;
        case UINT: return value & 4294967295L;
        default: return value;
      }
    }

    /** a / b, both 64 bits without a sign; 0 for nothing to divide by. */
    private static long quotient(long a, long b) {
      if (b == 0) {
        return 0;
      }
      if (b < 0) {
        return a < 0 && a >= b ? 1 : 0;
      }
      // Without its last bit a has no sign; that bit may still make it one more.
      long most = (a >>> 1) / b << 1;
      long rest = a - most * b;
      return rest < 0 || rest >= b ? most + 1 : most;
    }
  }

  /** The identifiers and tags that are declared, with the blocks to which they belong. */
  private static final class Symbols {
    private static final int OBJECT = 1;
    private static final int LOCAL = 2;
    private static final int FUNCTION = 3;
    private static final int TYPEDEF = 4;
    private static final int ENUMERATOR = 5;
    private static final int LIBRARY = 6;
    private static final int TAG = 7;
    /** What stands for an object or function of the unit in a block. */
    private static final int ALIAS = 8;
    private static final int DEFINED = 1;
    private static final int USED = 2;
    private static final int INITIALISED = 4;
    // Names of the library with what they answer and take: v void, i int, u unsigned, l long long, d double,
    // s char *, p void *, f FILE *, e char **, c and x pointers to functions, and . for ...
    private static final String STREAMS =
        "putchar ii putc iif fputc iif puts is fputs isf getchar i getc if fgetc if fgets ssif ungetc iif";
    private static final String FORMATS = "printf is. fprintf ifs. sprintf iss. scanf is. sscanf iss.";
    private static final String TEXTS =
        "strlen us strcpy sss strncpy sssu strcat sss strncat sssu strcmp iss strncmp issu strchr ssi strrchr ssi";
    private static final String BYTES = "strstr sss memcpy pppu memmove pppu memset ppiu memcmp ippu memchr ppiu";
    private static final String LETTERS =
        "isdigit ii isalpha ii isalnum ii isspace ii isupper ii islower ii isxdigit ii isprint ii ispunct ii";
    private static final String NUMBERS =
        "toupper ii tolower ii abs ii labs ii llabs ll atoi is atol is atoll ls strtol isei fabs dd sqrt dd";
    private static final String RUNNING = "floor dd ceil dd exit vi abort v atexit ix qsort vpuuc srand vu rand i";
    private static final String HEAP = "malloc pu calloc puu realloc ppu free vp va_start v va_end v";

    private final Pieces pieces;
    private final Types types;
    private int[] kind = new int[256];
    private int[] name = new int[256];
    private int[] type = new int[256];
    /** Which object, function or name of the library; where a local lies in its frame; for what an alias stands. */
    private int[] index = new int[256];
    private long[] worth = new long[256];
    private int[] outer = new int[256];
    private int[] level = new int[256];
    private int[] flags = new int[256];
    private int count;
    /** By spelling: the innermost identifier, the innermost tag, the object or function of the unit. */
    private int[] heads = new int[1024];
    private int[] tags = new int[1024];
    private int[] units = new int[1024];
    private int[] open = new int[256];
    private int openTop;
    private int[] marks = new int[64];
    private int depth;
    /** What the parameters of a definition declare, for its body. */
    private int[] kept = new int[64];
    private int keptCount;
    private int libraryCount;

    private Symbols(Pieces pieces, Types types) {
      this.pieces = pieces;
      this.types = types;
      count = 1;
      addLibrary(STREAMS);
      addLibrary(FORMATS);
      addLibrary(TEXTS);
      addLibrary(BYTES);
      addLibrary(LETTERS);
      addLibrary(NUMBERS);
      addLibrary(RUNNING);
      addLibrary(HEAP);
      types.keepStandard();
    }

    private void addLibrary(String list) {
      byte[] b = Pieces.bytesOf(list);
      int from = 0;
      for (int at = 0; at < b.length; at++) {
        if (b[at] == ' ') {
          int end = at + 1;
          while (end < b.length && b[end] != ' ') {
            end++;
          }
          int symbol = add(LIBRARY, pieces.spell(b, from, at, Pieces.NAME), signature(b, at + 1, end));
          index[symbol] = libraryCount++;
          at = end;
          from = end + 1;
        }
      }
    }

    private int signature(byte[] b, int from, int to) {
      boolean rest = b[to - 1] == '.';
      int last = rest ? to - 1 : to;
      int first = types.parameterTotal;
      for (int i = from + 1; i < last; i++) {
        types.addParameter(typeOf(b[i]));
      }
      return types.function(typeOf(b[from]), first, last - from - 1, rest);
    }

    private int typeOf(int letter) {
      switch (letter) {
        case 'i': return INT;
        case 'u': return UINT;
        case 'l': return LLONG;
        case 'd': return DOUBLE;
        case 's': return Types.TEXT;
        case 'p': return Types.BYTES;
        case 'f': return Types.STREAM;
        case 'e': return Types.TEXTS;
        case 'c': return types.pointerTo[Types.COMPARING];
        case 'x': return types.pointerTo[Types.LEAVING];
        default: return VOID;
      }
    }

    private void beginUnit() {
      Arrays.fill(heads, 0);
      Arrays.fill(tags, 0);
      Arrays.fill(units, 0);
      count = libraryCount + 1;
      depth = -1;
      openTop = 0;
      for (int symbol = 1; symbol < count; symbol++) {
        declare(symbol);
      }
      depth = 0;
      declareType(W_SIZE_T, UINT);
      declareType(W_FILE_TYPE, Types.FILE);
      declareType(W_VA_LIST, Types.TEXT);
    }

    private void declareType(int spelling, int meaning) {
      depth = -1;
      declare(add(TYPEDEF, spelling, meaning));
      depth = 0;
    }

    private int add(int as, int spelling, int of) {
      int symbol = count++;
      kind = grown(kind, symbol);
      name = grown(name, symbol);
      type = grown(type, symbol);
      index = grown(index, symbol);
      worth = grown(worth, symbol);
      outer = grown(outer, symbol);
      level = grown(level, symbol);
      flags = grown(flags, symbol);
      kind[symbol] = as;
      name[symbol] = spelling;
      type[symbol] = of;
      index[symbol] = 0;
      worth[symbol] = 0;
      flags[symbol] = 0;
      return symbol;
    }

    /** Makes a symbol known in the present block. */
    private void declare(int symbol) {
      int spelling = name[symbol];
      level[symbol] = depth;
      if (kind[symbol] == TAG) {
        tags = grown(tags, spelling);
        outer[symbol] = tags[spelling];
        tags[spelling] = symbol;
      } else {
        heads = grown(heads, spelling);
        outer[symbol] = heads[spelling];
        heads[spelling] = symbol;
      }
      open = grown(open, openTop);
      open[openTop++] = symbol;
    }

    private int identifier(int spelling) {
      return spelling >= 0 && spelling < heads.length ? heads[spelling] : 0;
    }

    /** Whether an identifier is a type or an enumerator where no block is open. */
    private boolean isOther(int spelling) {
      int symbol = identifier(spelling);
      for (int n = 0; n < count && symbol != 0 && level[symbol] > 0; n++) {
        symbol = outer[symbol];
      }
      return symbol != 0 && level[symbol] == 0 && (kind[symbol] == TYPEDEF || kind[symbol] == ENUMERATOR);
    }

    /** Whether the unit has an object or function of that name, or must have none but a function. */
    private boolean isTaken(int spelling) {
      return depth == 0 && (spelling == W_MAIN || unit(spelling) != 0);
    }

    private int tag(int spelling) {
      return spelling >= 0 && spelling < tags.length ? tags[spelling] : 0;
    }

    private int unit(int spelling) {
      return spelling >= 0 && spelling < units.length ? units[spelling] : 0;
    }

    private void setUnit(int spelling, int symbol) {
      units = grown(units, spelling);
      units[spelling] = symbol;
    }

    private boolean isHere(int symbol) {
      return symbol != 0 && level[symbol] == depth;
    }

    /** The object or function for which a symbol stands. */
    private int meant(int symbol) {
      return kind[symbol] == ALIAS ? index[symbol] : symbol;
    }

    private void openBlock() {
      marks = grown(marks, depth);
      marks[depth++] = openTop;
    }

    private void closeBlock() {
      if (depth > 0) {
        depth--;
        while (openTop > marks[depth]) {
          int symbol = open[--openTop];
          if (kind[symbol] == TAG) {
            tags[name[symbol]] = outer[symbol];
          } else {
            heads[name[symbol]] = outer[symbol];
          }
        }
      }
    }

    /** Remembers what the present block has declared. */
    private void keepBlock() {
      keptCount = 0;
      for (int i = depth > 0 ? marks[depth - 1] : openTop; i < openTop; i++) {
        kept = grown(kept, keptCount);
        kept[keptCount++] = open[i];
      }
    }

    private void openKeptBlock() {
      openBlock();
      for (int i = 0; i < keptCount; i++) {
        declare(kept[i]);
      }
    }
  }

  /** A program: its code and what the machine must know of its functions, objects and strings. */
  private static final class Program {
    // What is kept of a function, and of a string.
    private static final int F_STRIDE = 8;
    private static final int F_ENTRY = 0;
    private static final int F_FRAME = 1;
    private static final int F_TYPE = 2;
    private static final int F_ANSWER = 3;
    private static final int F_SIZE = 4;
    private static final int F_PARAMETERS = 5;
    private static final int F_COUNT = 6;
    private static final int S_STRIDE = 3;
    private static final int S_FROM = 0;
    private static final int S_LENGTH = 1;
    private static final int S_ADDRESS = 2;
    private static final int RESERVE = 32;
    // What a function answers.
    private static final int NOTHING = 0;
    private static final int WHOLE = 1;
    private static final int REAL = 2;
    private static final int RECORD = 3;
    // Facts: functions with a body, objects, strings, pieces, the greatest frame.
    private static final int FUNCTIONS = 0;
    private static final int OBJECTS = 1;
    private static final int STRINGS = 2;
    private static final int PIECES = 3;
    private static final int GREATEST_FRAME = 4;

    private int[] code = new int[1024];
    private int codeLength;
    /** Where the code of another line begins, and that line. */
    private int[] lines = new int[128];
    private int lineTop;
    private int line;
    private double[] reals = new double[8];
    private int realCount;
    private int[] functions = new int[8 * F_STRIDE];
    private int functionCount;
    /** Of each parameter where it lies in the frame and its kind; below 0 the size of a struct. */
    private int[] parameters = new int[32];
    private int parameterCount;
    private int[] objects = new int[32];
    private int[] strings = new int[16 * S_STRIDE];
    private int stringCount;
    private byte[] texts = new byte[0];
    private int[] cases = new int[16];
    private int caseLength;
    /** Where the jump stands behind the latest initialiser of the unit, to be led to the next. */
    private int lastInitialiser;
    private int initialFrame;
    private int heapStart;
    private int mainFunction;
    /** What about() tells. */
    private final int[] facts = new int[5];

    private Program() {
      emit(Machine.DONE);
      emit(Machine.INITIALISED);
      lastInitialiser = emit(Machine.JUMP, Machine.WORDS);
    }

    /** Sees that a few more instructions can be put behind the code. */
    private void reserve() {
      code = grown(code, codeLength + RESERVE * Machine.WORDS);
      lines = grown(lines, lineTop + 2 * RESERVE);
    }

    /** Puts an instruction behind the code; where it stands. */
    private int emit(int operation, int a, int b, int c) {
      int at = codeLength;
      if (lineTop == 0 || lines[lineTop - 1] != line) {
        lines[lineTop++] = at;
        lines[lineTop++] = line;
      }
      code[at] = operation;
      code[at + 1] = a;
      code[at + 2] = b;
      code[at + 3] = c;
      codeLength = at + Machine.WORDS;
      return at;
    }

    private int emit(int operation) {
      return emit(operation, 0, 0, 0);
    }

    private int emit(int operation, int a) {
      return emit(operation, a, 0, 0);
    }

    private int emit(int operation, int a, int b) {
      return emit(operation, a, b, 0);
    }

    /** Leads the jumps of a chain, each of which names the one before, to a place; the chain ends with 0. */
    private void lead(int chain, int to) {
      int at = chain;
      for (int n = 0; n < codeLength && at > 0; n++) {
        int before = code[at + 1];
        code[at + 1] = to;
        at = before;
      }
    }

    /** Drops the code from a place on. */
    private void cutBack(int length) {
      codeLength = length;
      while (lineTop > 0 && lines[lineTop - 2] >= length) {
        lineTop -= 2;
      }
    }

    private int lineAt(int place) {
      int i = lineTop - 2;
      while (i > 0 && lines[i] > place) {
        i -= 2;
      }
      return i >= 0 ? lines[i + 1] : 0;
    }

    private int addReal(double worth) {
      reals = grown(reals, realCount);
      reals[realCount] = worth;
      return realCount++;
    }

    private int addString(int from, int length) {
      int at = stringCount * S_STRIDE;
      strings = grown(strings, at + S_STRIDE);
      strings[at + S_FROM] = from;
      strings[at + S_LENGTH] = length;
      return stringCount++;
    }

    private int addFunction(int type) {
      int at = functionCount * F_STRIDE;
      functions = grown(functions, at + F_STRIDE);
      functions[at + F_TYPE] = type;
      functions[at + F_ENTRY] = -1;
      return functionCount++;
    }

    private void addParameter(int offset, int kind) {
      parameters = grown(parameters, 2 * parameterCount + 1);
      parameters[2 * parameterCount] = offset;
      parameters[2 * parameterCount + 1] = kind;
      parameterCount++;
    }

    /** What follows is done before main, behind what else is; it ends with endInitialiser. */
    private void beginInitialiser() {
      code[lastInitialiser + 1] = codeLength;
    }

    private void endInitialiser() {
      lastInitialiser = emit(Machine.JUMP, Machine.WORDS, 0, 0);
    }
  }

  /** Looks at the expressions of a unit, as their events come, and makes their code. */
  private static final class Expressions {
    // What is kept of an operand.
    private static final int STRIDE = 8;
    private static final int TYPE = 0;
    private static final int KIND = 1;
    private static final int INFO = 2;
    private static final int BITS = 3;
    private static final int STATE = 4;
    private static final int ROOM = 5;
    private static final int START = 6;
    private static final int MOST_OPERANDS = 2048;
    // Its kind: a value on the machine's stack; the address there of what is an lvalue, or of what can be read only,
    // or of the unit of a bit-field that is one or the other; a function's address; nothing at all.
    private static final int VALUE = 0;
    private static final int PLACE = 1;
    private static final int READABLE = 2;
    private static final int BIT_PLACE = 3;
    private static final int READABLE_BITS = 4;
    private static final int FUNCTION = 5;
    private static final int LIBRARY = 6;
    private static final int NOTHING = 7;
    // Its state: part of no constant expression, a constant, one that has no worth, or 0 made a void *.
    private static final int VARIABLE = 0;
    private static final int CONSTANT = 1;
    private static final int WORTHLESS = 2;
    private static final int NULL = 3;
    private static final int NONE = -1;
    private static final int MOST_ROOM = 130;
    // Of a call: the function's type, its number in the library (or NONE), arguments so far, their room, the place.
    private static final int CALL = 5;

    private final Pieces pieces;
    private final Parser parser;
    private final Types types;
    private final Symbols symbols;
    private Program program = new Program();
    private final int[] operands = new int[MOST_OPERANDS * STRIDE];
    private final long[] worths = new long[MOST_OPERANDS];
    private int top;
    /** Jumps to be led, calls and types whose operands come, the innermost last. */
    private int[] stack = new int[1024];
    private int stackTop;
    private int unworked;
    private boolean inStatic;
    /** The last parameter of a function with ..., else 0. */
    private int lastParameter;
    /** Answers that are structs: where the code has their place (or NONE), and their type. */
    private int[] answers = new int[32];
    private int answerTop;
    private int[] firstAnswers = new int[32];
    private int firstAnswerTop;
    private boolean inFunction;
    /** The line for a fault, and that of the first whole expression without room; NONE if there is none. */
    private int where;
    private int roomless;

    private Expressions(Pieces pieces, Parser parser, Types types, Symbols symbols) {
      this.pieces = pieces;
      this.parser = parser;
      this.types = types;
      this.symbols = symbols;
    }

    private void beginUnit(Program made) {
      program = made;
      top = 0;
      stackTop = 0;
      unworked = 0;
      inStatic = false;
      inFunction = false;
      lastParameter = 0;
      answerTop = 0;
      firstAnswerTop = 0;
      roomless = NONE;
    }

    private void fault() {
      pieces.fail(4, where);
    }

    private int get(int operand, int field) {
      return operand < 0 ? 0 : operands[operand * STRIDE + field];
    }

    private void set(int operand, int field, int what) {
      if (operand >= 0) {
        operands[operand * STRIDE + field] = what;
      }
    }

    /** The type of the latest operand. */
    private int type() {
      return get(top - 1, TYPE);
    }

    private int kind() {
      return get(top - 1, KIND);
    }

    private void push(int type, int kind, int start) {
      if (top >= MOST_OPERANDS) {
        pieces.fail(5, where);
        return;
      }
      top++;
      set(top - 1, TYPE, type);
      set(top - 1, START, start);
      become(type, kind);
      set(top - 1, ROOM, 1);
    }

    /** The latest operand is something else now, which is no constant. */
    private void become(int type, int kind) {
      int at = Math.max(top - 1, 0) * STRIDE;
      operands[at + TYPE] = type;
      operands[at + KIND] = kind;
      operands[at + INFO] = NONE;
      operands[at + BITS] = 0;
      operands[at + STATE] = VARIABLE;
    }

    private void pushConstant(int type, long worth) {
      int start = program.codeLength;
      if (worth == (int) worth) {
        program.emit(Machine.LITERAL, (int) worth);
      } else {
        program.emit(Machine.WIDE, (int) worth, (int) (worth >> 32));
      }
      push(type, VALUE, start);
      set(top - 1, STATE, CONSTANT);
      worths[top - 1] = worth;
    }

    private void keep(int a) {
      stack = grown(stack, stackTop);
      stack[stackTop++] = a;
    }

    private int kept() {
      return stackTop > 0 ? stack[--stackTop] : 0;
    }

    /** Does one event of an expression. */
    private void event(int event, int n) {
      switch (event) {
        case E_IDENTIFIER: identifier(n); return;
        case E_CONSTANT: constant(n); return;
        case E_STRING: string(n); return;
        case E_SIGN: value(); return;
        case E_BINARY: binary(n); return;
        case E_LOGICAL_SIGN: logicalSign(n); return;
        case E_LOGICAL: logical(n); return;
        case E_COMMA_SIGN: commaSign(); return;
        case E_COMMA: comma(); return;
        case E_QUESTION: question(); return;
        case E_COLON: colon(); return;
        case E_CHOICE: choice(); return;
        case E_ASSIGN_SIGN: assignSign(n); return;
        case E_ASSIGN: assign(); return;
        case E_COMPOUND: compound(binaryOf(n)); return;
        case E_PREFIX: prefix(n); return;
        case E_NOT: not(); return;
        case E_POSTFIX: step(n, true); return;
        case E_INDEX_SIGN: value(); return;
        case E_INDEX: index(); return;
        case E_CALL_SIGN: callSign(); return;
        case E_ARGUMENT: argument(); return;
        case E_CALL: call(); return;
        case E_DOT: dot(n); return;
        case E_ARROW: arrow(n); return;
        case E_CAST: cast(); return;
        case E_SIZEOF: unworked++; return;
        case E_SIZEOF_END: sizeofEnd(); return;
        case E_SIZEOF_TYPE: sizeofType(); return;
        case E_VA_LIST: variableList(); return;
        case E_VA_ARG: variableArgument(); return;
        case E_CONDITION: useCondition(); return;
        case E_DROP: dropValue(); return;
        default: fault();
      }
    }

    // Primaries.

    private void identifier(int token) {
      int symbol = symbols.meant(symbols.identifier(parser.nameAt(token)));
      int start = program.codeLength;
      int type = symbols.type[symbol];
      int index = symbols.index[symbol];
      symbols.flags[symbol] |= Symbols.USED;
      switch (symbol == 0 ? 0 : symbols.kind[symbol]) {
        case Symbols.ENUMERATOR:
          pushConstant(INT, symbols.worth[symbol]);
          return;
        case Symbols.OBJECT:
          program.emit(Machine.OBJECT, index, 0);
          push(type, PLACE, start);
          return;
        case Symbols.LOCAL:
          if (inStatic && unworked == 0) {
            fault();
          }
          program.emit(Machine.LOCAL, index);
          push(type, PLACE, start);
          set(top - 1, INFO, symbol);
          return;
        case Symbols.FUNCTION:
          program.emit(Machine.FUNCTION, index);
          push(type, FUNCTION, start);
          set(top - 1, INFO, symbol);
          return;
        case Symbols.LIBRARY:
          push(type, LIBRARY, start);
          set(top - 1, INFO, index);
          if (parser.kindAt(token + 1) != OPEN) {
            fault();
          }
          return;
        default:
          fault();
          push(INT, VALUE, start);
      }
    }

    private void constant(int token) {
      int type = parser.kinds[token] >> 8;
      long worth = parser.values[token];
      if (!Types.isReal(type)) {
        pushConstant(type, worth);
        return;
      }
      int start = program.codeLength;
      program.emit(Machine.REAL, program.addReal(Machine.realOf(worth)));
      push(type, VALUE, start);
    }

    private void string(int token) {
      int from = (int) parser.values[token];
      int length = (int) (parser.values[token] >>> 32);
      int start = program.codeLength;
      int string = program.addString(from, length);
      program.emit(Machine.STRING, string);
      push(types.array(CHAR, length + 1), PLACE, start);
      set(top - 1, INFO, -2 - string);
    }

    /** The string that the latest operand is and nothing else; NONE if it is something else. */
    private int bareString() {
      int info = get(top - 1, INFO);
      return kind() == PLACE && info <= -2 ? -2 - info : NONE;
    }

    // Values and their conversions.

    /** Makes of the latest operand what it means where its value is asked for. */
    private void value() {
      int type = type();
      int kind = kind();
      if (kind == PLACE || kind == READABLE) {
        if (types.isArray(type)) {
          become(types.pointerTo[types.of[type]], VALUE);
        } else if (types.isScalar(type)) {
          program.emit(Machine.LOAD, types.machineKind(type));
          become(type, VALUE);
        } else if (types.isComplete(type)) {
          become(type, READABLE);
        } else {
          pieces.fail(4, where);
        }
      } else if (kind == BIT_PLACE || kind == READABLE_BITS) {
        int bits = get(top - 1, BITS);
        program.emit(Machine.LOAD_BITS, bits, type);
        become(type == UINT && (bits & 255) == 32 ? UINT : INT, VALUE);
      } else if (kind == FUNCTION) {
        become(types.pointerTo[type], VALUE);
      } else if (kind != VALUE) {
        pieces.fail(4, where);
      }
    }

    private boolean isNull(int operand) {
      int state = get(operand, STATE);
      return state == NULL || state == CONSTANT && worths[operand] == 0;
    }

    /** A value that is arithmetic or a pointer, of which only matters whether it is 0. */
    private void truth() {
      value();
      if (!types.isScalar(type())) {
        pieces.fail(4, where);
      }
      program.emit(Types.isReal(type()) ? Machine.TRUTH_REAL : Machine.TRUTH);
    }

    /** Casts what lies on the machine's stack, or what lies below that. */
    private void convert(int from, int to, boolean below) {
      int f = types.machineKind(from);
      int t = types.machineKind(to);
      if (Types.isReal(t)) {
        if (!Types.isReal(f)) {
          program.emit(below ? Machine.TO_REAL_BELOW : Machine.TO_REAL, f == ULLONG ? 1 : 0, t);
        } else if (t == FLOAT && f == DOUBLE) {
          program.emit(Machine.ROUND);
        }
      } else if (Types.isReal(f)) {
        program.emit(Machine.TO_WHOLE, t);
      } else if (t < LLONG && f != t && !(t == INT && f < INT)) {
        program.emit(below ? Machine.CAST_BELOW : Machine.CAST, t);
      }
    }

    private boolean isVoidPointer(int type) {
      return types.isPointer(type) && types.of[type] == VOID;
    }

    private boolean assignable(int to, int operand) {
      int from = get(operand, TYPE);
      if (get(operand, KIND) == NOTHING) {
        return false;
      }
      if (types.isArithmetic(to)) {
        return types.isArithmetic(from);
      }
      if (types.isPointer(to)) {
        return from == to || isNull(operand)
            || types.isPointer(from) && (isVoidPointer(to) || isVoidPointer(from));
      }
      return types.isRecord(to) && from == to;
    }

    /** The latest operand as a value of a type to which it must be assignable. */
    private void valueFor(int type) {
      value();
      if (!assignable(type, top - 1)) {
        pieces.fail(4, where);
      } else if (types.isScalar(type)) {
        convert(type(), type, false);
      }
    }

    // Signs between two operands.

    private void binary(int sign) {
      value();
      int left = top - 2;
      int a = get(left, TYPE);
      int b = type();
      int room = Math.max(get(left, ROOM), get(top - 1, ROOM) + 1);
      if (types.isArithmetic(a) && types.isArithmetic(b)) {
        fold(sign, arithmeticCode(sign, a, b));
      } else if (rankOf(sign) == 9) {
        sum(sign, a, b);
      } else if (compares(sign)) {
        comparePointers(sign, a, b);
      } else {
        fault();
      }
      top--;
      set(left, ROOM, room);
    }

    private void logicalSign(int sign) {
      truth();
      keep(program.emit(sign == AND_AND ? Machine.AND : Machine.OR, 0));
    }

    private void logical(int sign) {
      truth();
      program.lead(kept(), program.codeLength);
      int left = top - 2;
      int room = Math.max(get(left, ROOM), get(top - 1, ROOM));
      int state = get(left, STATE);
      long worth = 0;
      if (!types.isInteger(get(left, TYPE)) || !types.isInteger(type()) || get(top - 1, STATE) == VARIABLE) {
        state = VARIABLE;
      } else if (state == CONSTANT) {
        boolean first = worths[left] != 0;
        boolean decided = first == (sign == OR_OR);
        state = decided ? CONSTANT : get(top - 1, STATE);
        worth = (decided ? first : worths[top - 1] != 0) ? 1 : 0;
      }
      top--;
      become(INT, VALUE);
      set(left, STATE, state);
      set(left, ROOM, room);
      worths[left] = worth;
    }

    private static boolean isShift(int sign) {
      return sign == SHIFT_LEFT || sign == SHIFT_RIGHT;
    }

    private static boolean wantsIntegers(int sign) {
      return isShift(sign) || sign == PERCENT || sign == AMPERSAND || sign == CARET || sign == BAR;
    }

    private static boolean compares(int sign) {
      return rankOf(sign) == 7 || rankOf(sign) == 6;
    }

    /** Two arithmetic values lie on the machine's stack: works on them; the type in which it does. */
    private int arithmeticCode(int sign, int a, int b) {
      if (wantsIntegers(sign) && !(types.isInteger(a) && types.isInteger(b))) {
        fault();
      }
      int type = isShift(sign) ? Types.promoted(a) : Types.usual(a, b);
      convert(a, type, true);
      convert(b, isShift(sign) ? Types.promoted(b) : type, false);
      program.emit(Types.isReal(type) ? Machine.REALS : Machine.INTEGERS, sign, type);
      return type;
    }

    /** Two operands become the result of their type, which is a constant if they are. */
    private void fold(int sign, int type) {
      int left = top - 2;
      int right = top - 1;
      int state = stateOfBoth(left, right);
      long x = Types.cut(type, worths[left]);
      long y = isShift(sign) ? worths[right] : Types.cut(type, worths[right]);
      if (state == CONSTANT && Machine.trapOf(sign, type, y) != 0) {
        state = WORTHLESS;
      }
      top--;
      become(compares(sign) ? INT : type, VALUE);
      top++;
      set(left, STATE, state);
      worths[left] = state == CONSTANT ? Machine.worked(sign, type, x, y) : 0;
    }

    /** The state of what is made of two operands. */
    private int stateOfBoth(int left, int right) {
      int a = get(left, STATE);
      int b = get(right, STATE);
      if (!types.isInteger(get(left, TYPE)) || !types.isInteger(get(right, TYPE)) || a == VARIABLE || b == VARIABLE) {
        return VARIABLE;
      }
      return a == WORTHLESS || b == WORTHLESS ? WORTHLESS : CONSTANT;
    }

    /** The size of what a pointer points to, which must be complete. */
    private int step(int pointer) {
      int to = types.of[pointer];
      if (!types.isComplete(to)) {
        pieces.fail(4, where);
      }
      return Math.max(types.size[to], 1);
    }

    private void sum(int sign, int a, int b) {
      int type = a;
      if (types.isPointer(a) && types.isInteger(b)) {
        program.emit(sign == PLUS ? Machine.POINTER_ADD : Machine.POINTER_SUBTRACT, step(a));
      } else if (sign == PLUS && types.isInteger(a) && types.isPointer(b)) {
        program.emit(Machine.ADD_POINTER, step(b));
        type = b;
      } else if (sign == MINUS && types.isPointer(a) && a == b) {
        program.emit(Machine.DIFFERENCE, step(a));
        type = INT;
      } else {
        fault();
      }
      top--;
      become(type, VALUE);
      top++;
    }

    private void comparePointers(int sign, int a, int b) {
      boolean right = types.isPointer(a) && types.isPointer(b)
          && (a == b || isVoidPointer(a) || isVoidPointer(b))
          || types.isPointer(a) && isNull(top - 1) || types.isPointer(b) && isNull(top - 2);
      if (!right) {
        fault();
      }
      program.emit(Machine.INTEGERS, sign, UINT);
      top--;
      become(INT, VALUE);
      top++;
    }

    private void commaSign() {
      if (kind() != NOTHING) {
        value();
        program.emit(Machine.POP);
      }
    }

    private void comma() {
      if (kind() != NOTHING) {
        value();
      }
      int left = top - 2;
      int room = Math.max(get(left, ROOM), get(top - 1, ROOM));
      int type = type();
      int kind = kind();
      top--;
      become(type, kind);
      set(left, ROOM, room);
    }

    private void question() {
      truth();
      keep(program.emit(Machine.JUMP_FALSE, 0));
    }

    /** Behind the second part there is room for its conversion to the type that the third part makes known. */
    private void colon() {
      if (kind() != NOTHING) {
        value();
      }
      int slot = program.emit(Machine.NOTHING);
      int end = program.emit(Machine.JUMP, 0);
      program.lead(kept(), program.codeLength);
      keep(slot);
      keep(end);
    }

    private void choice() {
      if (kind() != NOTHING) {
        value();
      }
      int end = kept();
      int slot = kept();
      int condition = top - 3;
      int a = get(top - 2, TYPE);
      int b = type();
      int type = choiceType(a, b);
      if (types.isArithmetic(type)) {
        convert(b, type, false);
        convertInSlot(a, type, slot);
      }
      program.lead(end, program.codeLength);
      int room = Math.max(get(condition, ROOM), Math.max(get(top - 2, ROOM), get(top - 1, ROOM)));
      int state = choiceState(type);
      int chosen = worths[condition] != 0 ? top - 2 : top - 1;
      int kind = kind();
      top -= 2;
      become(type, kind);
      set(condition, ROOM, room);
      set(condition, STATE, state);
      worths[condition] = state == CONSTANT ? Types.cut(type, worths[chosen]) : 0;
    }

    private int choiceType(int a, int b) {
      boolean nothing = get(top - 2, KIND) == NOTHING;
      if (nothing || kind() == NOTHING) {
        if (nothing != (kind() == NOTHING)) {
          fault();
        }
        return VOID;
      }
      if (types.isArithmetic(a) && types.isArithmetic(b)) {
        return Types.usual(a, b);
      }
      if (a == b) {
        return a;
      }
      if (types.isPointer(a) && isNull(top - 1)) {
        return a;
      }
      if (types.isPointer(b) && isNull(top - 2)) {
        return b;
      }
      if (!types.isPointer(a) || !types.isPointer(b) || !isVoidPointer(a) && !isVoidPointer(b)) {
        fault();
      }
      return types.pointer(VOID);
    }

    private int choiceState(int type) {
      int condition = get(top - 3, STATE);
      if (condition == VARIABLE || condition == NULL || !types.isInteger(type)
          || get(top - 2, STATE) == VARIABLE || get(top - 1, STATE) == VARIABLE) {
        return VARIABLE;
      }
      return condition == WORTHLESS ? WORTHLESS : get(worths[top - 3] != 0 ? top - 2 : top - 1, STATE);
    }

    private void convertInSlot(int from, int to, int slot) {
      int end = program.codeLength;
      convert(from, to, false);
      for (int i = 0; i < Machine.WORDS && end < program.codeLength; i++) {
        program.code[slot + i] = program.code[end + i];
      }
      program.cutBack(end);
    }

    // Assignments.

    /** The latest operand must be an lvalue that may be assigned to. */
    private void assignPlace() {
      int kind = kind();
      boolean right = kind == BIT_PLACE
          || kind == PLACE && !types.isArray(type()) && types.isComplete(type());
      if (!right) {
        fault();
      }
    }

    /** Whether the operator fits what stands on the left is looked at behind the right side, with that. */
    private void assignSign(int sign) {
      assignPlace();
      if (sign == ASSIGN || pieces.fault != 0) {
        return;
      }
      program.emit(Machine.COPY_TOP);
      if (kind() == BIT_PLACE) {
        program.emit(Machine.LOAD_BITS, get(top - 1, BITS), type());
      } else {
        program.emit(Machine.LOAD, types.machineKind(type()));
      }
    }

    private void assign() {
      int type = get(top - 2, TYPE);
      valueFor(type);
      if (types.isRecord(type)) {
        program.emit(Machine.COPY, types.size[type]);
      } else if (get(top - 2, KIND) == BIT_PLACE) {
        program.emit(Machine.STORE_BITS, get(top - 2, BITS), type);
      } else {
        program.emit(Machine.STORE, types.machineKind(type));
      }
      endAssignment();
    }

    /** Two operands have become the worth of the left one. */
    private void endAssignment() {
      int left = top - 2;
      int type = get(left, TYPE);
      int room = Math.max(get(left, ROOM), get(top - 1, ROOM) + 1);
      top--;
      become(type, types.isRecord(type) ? READABLE : VALUE);
      set(left, ROOM, room);
    }

    private static int binaryOf(int sign) {
      switch (sign) {
        case STAR_ASSIGN: return STAR;
        case SLASH_ASSIGN: return SLASH;
        case PERCENT_ASSIGN: return PERCENT;
        case PLUS_ASSIGN: return PLUS;
        case MINUS_ASSIGN: return MINUS;
        case LEFT_ASSIGN: return SHIFT_LEFT;
        case RIGHT_ASSIGN: return SHIFT_RIGHT;
        case AND_ASSIGN: return AMPERSAND;
        case XOR_ASSIGN: return CARET;
        default: return BAR;
      }
    }

    /** The address, the value there and the right side lie on the machine's stack. */
    private void compound(int sign) {
      value();
      int left = top - 2;
      int type = get(left, TYPE);
      int bits = get(left, BITS);
      boolean field = get(left, KIND) == BIT_PLACE;
      int a = field && type == UINT && (bits & 255) < 32 ? INT : type;
      int b = type();
      if (types.isArithmetic(a) && types.isArithmetic(b)) {
        convert(arithmeticCode(sign, a, b), type, false);
      } else if (types.isPointer(a) && types.isInteger(b) && rankOf(sign) == 9) {
        program.emit(sign == PLUS ? Machine.POINTER_ADD : Machine.POINTER_SUBTRACT, step(a));
      } else {
        fault();
      }
      if (field) {
        program.emit(Machine.STORE_BITS, bits, type);
      } else {
        program.emit(Machine.STORE, types.machineKind(type));
      }
      endAssignment();
    }

    // Signs before and behind an operand.

    private void prefix(int sign) {
      switch (sign) {
        case INCREASE: case DECREASE:
          step(sign, false);
          return;
        case AMPERSAND:
          address();
          return;
        case STAR:
          value();
          indirect();
          return;
        default:
          unary(sign);
      }
    }

    private void unary(int sign) {
      value();
      int from = type();
      if (sign == TILDE ? !types.isInteger(from) : !types.isArithmetic(from)) {
        fault();
        return;
      }
      int type = Types.promoted(from);
      int state = get(top - 1, STATE);
      if (sign == MINUS) {
        program.emit(Types.isReal(type) ? Machine.NEGATE_REAL : Machine.NEGATE, type);
      } else if (sign == TILDE) {
        program.emit(Machine.COMPLEMENT, type);
      }
      long worth = worths[top - 1];
      become(type, VALUE);
      if (types.isInteger(type)) {
        set(top - 1, STATE, state);
        worths[top - 1] = Types.cut(type, sign == MINUS ? -worth : sign == TILDE ? ~worth : worth);
      }
    }

    private void not() {
      truth();
      int state = types.isInteger(type()) ? get(top - 1, STATE) : VARIABLE;
      long worth = worths[top - 1];
      program.emit(Machine.NOT_TRUE);
      become(INT, VALUE);
      set(top - 1, STATE, state);
      worths[top - 1] = worth == 0 ? 1 : 0;
    }

    private void address() {
      if (kind() != PLACE && kind() != FUNCTION) {
        fault();
      }
      become(types.pointer(type()), VALUE);
    }

    /** The latest operand, a pointer, becomes what it points to. */
    private void indirect() {
      int type = type();
      if (!types.isPointer(type)) {
        fault();
        return;
      }
      int to = types.of[type];
      if (types.isFunction(to)) {
        become(to, FUNCTION);
      } else {
        step(type);
        become(to, PLACE);
      }
    }

    private void step(int sign, boolean behind) {
      int type = type();
      assignPlace();
      if (!types.isScalar(type) || pieces.fault != 0) {
        fault();
        return;
      }
      int by = types.isPointer(type) ? step(type) : 1;
      by = sign == INCREASE ? by : -by;
      if (kind() == BIT_PLACE) {
        program.emit(Machine.CHANGE_BITS, get(top - 1, BITS), type, behind ? by * 2 + 1 : by * 2);
      } else {
        program.emit(Machine.CHANGE, types.machineKind(type), by, behind ? 1 : 0);
      }
      become(type, VALUE);
    }

    private void index() {
      value();
      int left = top - 2;
      int a = get(left, TYPE);
      int b = type();
      int room = Math.max(get(left, ROOM), get(top - 1, ROOM) + 1);
      boolean leftPoints = types.isPointer(a) && types.isInteger(b);
      if (!leftPoints && !(types.isInteger(a) && types.isPointer(b))) {
        fault();
        return;
      }
      int pointer = leftPoints ? a : b;
      program.emit(leftPoints ? Machine.POINTER_ADD : Machine.ADD_POINTER, step(pointer));
      top--;
      become(types.of[pointer], PLACE);
      set(left, ROOM, room);
    }

    private void arrow(int token) {
      value();
      if (!types.isPointer(type()) || !types.isRecord(types.of[type()])) {
        fault();
        return;
      }
      become(types.of[type()], PLACE);
      dot(token);
    }

    private void dot(int token) {
      int struct = type();
      int kind = kind();
      boolean lvalue = kind == PLACE;
      boolean right = types.isRecord(struct) && (lvalue || kind == READABLE) && types.isComplete(struct);
      int member = right ? types.memberCalled(struct, parser.nameAt(token)) : Types.NONE;
      if (member < 0) {
        fault();
        return;
      }
      if (types.memberOffset[member] > 0) {
        program.emit(Machine.OFFSET, types.memberOffset[member]);
      }
      int bits = types.memberBits[member];
      boolean field = bits != Types.NONE;
      become(types.memberType[member], field ? lvalue ? BIT_PLACE : READABLE_BITS : lvalue ? PLACE : READABLE);
      set(top - 1, BITS, field ? bits : 0);
    }

    private void cast() {
      int type = kept();
      if (type == VOID) {
        commaSign();
        become(VOID, NOTHING);
        return;
      }
      value();
      int from = type();
      boolean mixed = types.isPointer(type) && Types.isReal(from) || Types.isReal(type) && types.isPointer(from);
      if (!types.isScalar(type) || !types.isScalar(from) || mixed || pieces.fault != 0) {
        fault();
        return;
      }
      int state = types.isInteger(from) ? get(top - 1, STATE) : VARIABLE;
      boolean isNull = state == CONSTANT && worths[top - 1] == 0 && isVoidPointer(type);
      convert(from, type, false);
      become(type, VALUE);
      if (types.isInteger(type)) {
        set(top - 1, STATE, state);
        worths[top - 1] = Types.cut(type, worths[top - 1]);
      } else if (isNull) {
        set(top - 1, STATE, NULL);
      }
    }

    private void sizeofEnd() {
      unworked--;
      int kind = kind();
      int type = type();
      int start = get(top - 1, START);
      if (kind == BIT_PLACE || kind == READABLE_BITS || kind == NOTHING || kind == LIBRARY || !types.isComplete(type)) {
        fault();
        return;
      }
      dropCode(start);
      top--;
      pushConstant(UINT, types.size[type]);
    }

    private void sizeofType() {
      int type = kept();
      if (!types.isComplete(type)) {
        fault();
      }
      pushConstant(UINT, types.size[type]);
    }

    /** Drops the code from a place on, and the places of answers in it. */
    private void dropCode(int from) {
      program.cutBack(from);
      for (int i = 0; i < answerTop; i += 2) {
        answers[i] = answers[i] >= from ? NONE : answers[i];
      }
      for (int i = 0; i < firstAnswerTop; i += 2) {
        firstAnswers[i] = firstAnswers[i] >= from ? NONE : firstAnswers[i];
      }
    }

    // Calls.

    private void callSign() {
      int kind = kind();
      int library = kind == LIBRARY ? get(top - 1, INFO) : NONE;
      boolean direct = kind == LIBRARY || kind == FUNCTION && get(top - 1, INFO) > 0;
      int type = type();
      if (kind != LIBRARY && kind != FUNCTION) {
        value();
        type = types.isPointer(type()) ? types.of[type()] : VOID;
      }
      int answer = types.isFunction(type) ? types.of[type] : VOID;
      if (!types.isFunction(type) || answer != VOID && !types.isComplete(answer)) {
        fault();
        return;
      }
      if (!direct) {
        program.emit(Machine.CHECK_CALL, type);
      }
      keep(type);
      keep(library);
      keep(0);
      keep(0);
      keep(types.isRecord(answer) ? addAnswer(answer) : NONE);
    }

    private int addAnswer(int type) {
      if (inStatic || !inFunction) {
        firstAnswers = grown(firstAnswers, firstAnswerTop + 1);
        firstAnswers[firstAnswerTop + 1] = type;
        firstAnswerTop += 2;
        return firstAnswerTop - 2;
      }
      answers = grown(answers, answerTop + 1);
      answers[answerTop + 1] = type;
      answerTop += 2;
      return answerTop - 2;
    }

    private void argument() {
      int call = stackTop - CALL;
      if (call < 0) {
        fault();
        return;
      }
      int type = stack[call];
      int number = stack[call + 2]++;
      int library = stack[call + 1];
      stack[call + 3] = Math.max(stack[call + 3], number + 1 + get(top - 1, ROOM));
      if (library >= Library.VA_START) {
        variableCallArgument(number, library == Library.VA_START);
      } else if (number < types.parameterCount(type)) {
        valueFor(types.parameters[types.first[type] + number]);
      } else if (types.takesMore(type)) {
        moreArgument();
      } else {
        fault();
      }
      top--;
    }

    /** The latest operand is an argument behind the ...: its bits, without sign, are what goes there. */
    private void moreArgument() {
      value();
      int type = type();
      if (!types.isScalar(type)) {
        pieces.fail(4, where);
      }
      if (Types.isReal(type)) {
        program.emit(Machine.AS_BITS);
      } else if (type != LLONG && type != ULLONG) {
        program.emit(Machine.CAST, UINT);
      }
    }

    private void call() {
      int place = kept();
      int room = kept();
      int count = kept();
      int library = kept();
      int type = kept();
      int answer = types.of[type];
      if (library >= Library.VA_START) {
        variableCall(count, library == Library.VA_START);
      } else {
        int fixed = types.parameterCount(type);
        if (count < fixed) {
          fault();
        }
        if (library != NONE) {
          program.emit(Machine.LIBRARY, library, fixed, count - fixed);
          if (library == Library.QSORT) {
            program.emit(Machine.SORT);
          }
        } else {
          callCode(fixed, count - fixed, place);
        }
      }
      room = Math.max(room, get(top - 1, ROOM));
      become(answer, answer == VOID ? NOTHING : types.isRecord(answer) ? READABLE : VALUE);
      set(top - 1, ROOM, room);
    }

    private void callCode(int fixed, int more, int place) {
      int code = program.emit(Machine.CALL, fixed, more, 0);
      if (place >= 0) {
        if (inStatic || !inFunction) {
          firstAnswers[place] = code;
        } else {
          answers[place] = code;
        }
      }
    }

    private void variableCallArgument(int number, boolean start) {
      if (number == 0) {
        variableList();
      } else if (number == 1 && start) {
        boolean last = kind() == PLACE && get(top - 1, INFO) == lastParameter && lastParameter > 0;
        if (!last) {
          fault();
        }
        dropCode(get(top - 1, START));
      }
    }

    private void variableCall(int count, boolean start) {
      if (count != (start ? 2 : 1)) {
        fault();
      }
      program.emit(start ? Machine.START_LIST : Machine.POP);
    }

    /** The latest operand must be a variable for a list of arguments, in a function that has one. */
    private void variableList() {
      if (kind() != PLACE || type() != types.pointer(CHAR) || lastParameter == 0) {
        fault();
      }
    }

    private void variableArgument() {
      int type = kept();
      boolean right = types.isPointer(type) || type >= INT && type <= ULLONG || type == DOUBLE;
      if (!right) {
        fault();
        return;
      }
      program.emit(Machine.NEXT_ARGUMENT, types.machineKind(type));
      become(type, VALUE);
    }

    // Whole expressions.

    /** Looks at the room of a whole expression, which is the latest operand. */
    private void checkRoom() {
      if (top > 0 && get(top - 1, ROOM) > MOST_ROOM && roomless == NONE) {
        roomless = where;
      }
    }

    /** What had no room is told when nothing else is wrong with its statement or declaration. */
    private void tellRoom() {
      if (roomless != NONE) {
        pieces.fail(5, roomless);
      }
    }

    /** The latest operand, with its code, is used up as a constant expression. */
    private long constantWorth() {
      if (pieces.fault != 0 || top == 0) {
        return 0;
      }
      value();
      checkRoom();
      int operand = top - 1;
      if (!types.isInteger(type()) || get(operand, STATE) != CONSTANT || kind() != VALUE) {
        fault();
      }
      dropCode(get(operand, START));
      top--;
      return worths[operand];
    }

    /** The latest operand is gone, with its code. */
    private void dropOperand() {
      if (top > 0) {
        dropCode(get(top - 1, START));
        top--;
      }
    }

    /** The latest operand is used up; its value is not wanted. */
    private void dropValue() {
      if (pieces.fault == 0 && top > 0) {
        commaSign();
        checkRoom();
        top--;
      }
    }

    /** The latest operand is used up as a condition. */
    private void useCondition() {
      if (pieces.fault == 0 && top > 0) {
        truth();
        checkRoom();
        top--;
      }
    }

    /** The latest operand, which is a value, is used up as it is. */
    private void useValue() {
      checkRoom();
      top = Math.max(top - 1, 0);
    }
  }

  /** Looks at the declarations and statements of a unit, in the order of the text, and makes its program. */
  private static final class Checker {
    private static final int NONE = -1;
    private static final int LARGEST = 262144;
    private static final int LAST_START = 240000;
    private static final int FIRST_OBJECT = 1024;
    // What a declarator makes of a type: kind, number and, of a function, twice its parameters and 1 with ...
    private static final int MOD = 3;
    private static final int M_POINTER = 0;
    private static final int M_ARRAY = 1;
    private static final int M_FUNCTION = 2;
    private static final int M_PARAMETER = 3;
    // What is kept of each thing that is open, the innermost last. Of all: the line to which faults go back behind
    // it, and that of the code.
    private static final int RECORD = 14;
    private static final int MOST_RECORDS = 400;
    private static final int WHERE = 0;
    private static final int LINE = 1;
    // Of what has specifiers: whether it is a parameter, the type and storage that they give, where the mods of its
    // declarator begin, its name's token, its type; of the specifiers so far: the words, how many times long, the
    // type that is given, whether something is there twice, the line outside.
    private static final int OF_PARAMETER = 2;
    private static final int BASE = 3;
    private static final int STORAGE = 4;
    private static final int MODS = 5;
    private static final int NAME = 6;
    private static final int TYPE = 7;
    private static final int WORDS = 8;
    private static final int LONGS = 9;
    private static final int GIVEN = 10;
    private static final int TWICE = 11;
    private static final int OUTSIDE = 12;
    private static final int SYMBOL = 13;
    // Of a struct: its type, the end so far, the alignment, the unit of bit-fields, its bits in use, the last member.
    private static final int STRUCT = 2;
    private static final int END = 3;
    private static final int ALIGNMENT = 4;
    private static final int UNIT = 5;
    private static final int BITS_USED = 6;
    private static final int LAST = 7;
    // Of an enum: the worth that comes next. Of parameters: where their mods begin, whether they are a definition's.
    private static final int NEXT = 2;
    private static final int BOTTOM = 2;
    private static final int OF_DEFINITION = 3;
    // Of a statement: two places in the code; what control was outside.
    private static final int FIRST = 2;
    private static final int SECOND = 3;
    private static final int OUTER_CONTROL = 4;
    // Of braces: where the path stood, the length of an array so far, how many parts there were.
    private static final int PATH = 2;
    private static final int LONGEST = 3;
    private static final int PARTS = 4;
    // What breaks, continues and cases belong to: chains of jumps (NONE: not in one), a switch's type, where its
    // cases begin, its default.
    private static final int CONTROL = 5;
    private static final int BREAKS = 0;
    private static final int CONTINUES = 1;
    private static final int SWITCH_TYPE = 2;
    private static final int SWITCH_CASES = 3;
    private static final int SWITCH_DEFAULT = 4;
    // Where an initialiser goes on: a type (or NONE, and a type for index), where that lies, an index or member.
    private static final int STEP = 3;
    // No index of an element: behind a string that is the whole of a char array, and before a designator is known.
    private static final int BEHIND_TEXT = LARGEST + 1;
    private static final int NO_ELEMENT = LARGEST + 2;

    private final Pieces pieces;
    private final Parser parser;
    private final Types types = new Types();
    private final Symbols symbols;
    private final Expressions ex;
    private Program program = new Program();
    private final int[] records = new int[RECORD * MOST_RECORDS];
    /** Where the innermost record lies. */
    private int open;
    private int[] mods = new int[128];
    private int modTop;
    private int function;
    private long frame;
    /** Labels (name, code, 1) and gotos (name, the jump, 0) of the function. */
    private int[] labels = new int[32];
    private int labelTop;
    private final int[] control = new int[CONTROL];
    /** Worth and code of the cases of open switches. */
    private long[] cases = new long[32];
    private int caseTop;
    private int[] path = new int[64];
    private int pathTop;
    /** The symbol that is being initialised, and where its jump around stands or it is made 0. */
    private int target;
    private int around;
    private int zeroed;

    private Checker(Pieces pieces, Parser parser) {
      this.pieces = pieces;
      this.parser = parser;
      symbols = new Symbols(pieces, types);
      ex = new Expressions(pieces, parser, types, symbols);
    }

    private void checkUnit(Program made) {
      program = made;
      types.beginUnit();
      symbols.beginUnit();
      ex.beginUnit(made);
      open = 0;
      modTop = 0;
      caseTop = 0;
      program.texts = Arrays.copyOf(parser.texts, parser.textLength);
      for (int i = 0; i < parser.eventCount && pieces.fault == 0; i++) {
        int event = parser.events[i] & 255;
        int number = parser.events[i] >> 8;
        program.reserve();
        types.reserve();
        if (event >= E_IDENTIFIER) {
          ex.event(event, number);
        } else if (event >= E_BLOCK) {
          statement(event, number);
        } else if (event >= E_INITIALISER) {
          initialiser(event, number);
        } else if (event >= E_DECLARATOR) {
          declarator(event, number);
        } else {
          declaration(event, number);
        }
      }
      if (pieces.fault == 0) {
        finishUnit();
      }
    }

    private void fault() {
      pieces.fail(4, ex.where);
    }

    private int get(int field) {
      return records[open + field];
    }

    private void set(int field, int what) {
      records[open + field] = what;
    }

    /** Opens a record; what is told behind it goes back to the present lines. */
    private void open() {
      if (open + 2 * RECORD > records.length) {
        pieces.fail(5, ex.where);
        return;
      }
      open += RECORD;
      Arrays.fill(records, open, open + RECORD, 0);
      records[open + WHERE] = ex.where;
      records[open + LINE] = program.line;
    }

    private void close() {
      ex.where = records[open + WHERE];
      program.line = records[open + LINE];
      open = Math.max(open - RECORD, 0);
    }

    /** Faults and traps are told at the line of this token from now on. */
    private void here(int token) {
      if (token < parser.count) {
        ex.where = parser.places[token];
        program.line = lineOf(ex.where);
      }
    }

    private static long roundUp(long size, long alignment) {
      return alignment > 0 ? (size + alignment - 1) / alignment * alignment : size;
    }

    // Specifiers and what they are made of.

    private void declaration(int event, int n) {
      switch (event) {
        case E_DECLARATION: open(); here(n); return;
        case E_DECLARATION_END: ex.tellRoom(); close(); return;
        case E_MEMBER: open(); return;
        case E_SPECIFIERS: openSpecifiers(); return;
        case E_SPECIFIERS_TAGGED: openSpecifiers(); ex.where = parser.places[n]; return;
        case E_WORD: word(parser.kindAt(n)); return;
        case E_TYPEDEF_NAME: give(symbols.type[symbols.identifier(parser.nameAt(n))]); return;
        case E_SPECIFIERS_END: closeSpecifiers(); return;
        case E_TAG: case E_TAG_ALONE: tag(n, event == E_TAG_ALONE); return;
        case E_STRUCT: openStruct(n); return;
        case E_FIELD: set(NAME, NONE); set(TYPE, get(BASE)); return;
        case E_FIELD_END: field(n == 1); return;
        case E_MEMBER_END: close(); return;
        case E_STRUCT_END: closeStruct(); return;
        case E_ENUM: openEnum(n); return;
        case E_ENUMERATOR: enumerator(n >> 1, (n & 1) == 1); return;
        case E_ENUM_END: close(); give(INT); return;
        default: fault();
      }
    }

    private void openSpecifiers() {
      set(WORDS, 0);
      set(LONGS, 0);
      set(GIVEN, NONE);
      set(TWICE, 0);
      set(OUTSIDE, ex.where);
    }

    /** Words of specifiers as bits: 32 are enough, as break is none of them. */
    private static int bit(int word) {
      return 1 << (word == K_VOLATILE ? K_BREAK : word) - K_AUTO;
    }

    private static int storages() {
      return bit(K_TYPEDEF) | bit(K_EXTERN) | bit(K_STATIC);
    }

    private static int typeWords() {
      return bit(K_VOID) | bit(K_CHAR) | bit(K_SHORT) | bit(K_INT) | bit(K_LONG) | bit(K_FLOAT) | bit(K_DOUBLE)
          | bit(K_SIGNED) | bit(K_UNSIGNED);
    }

    private void word(int word) {
      int bit = bit(word);
      if (get(OF_PARAMETER) == 1 && (bit & storages()) != 0) {
        pieces.fail(4, get(OUTSIDE));
      }
      if (word == K_LONG) {
        set(LONGS, get(LONGS) + 1);
      } else if ((get(WORDS) & bit) != 0) {
        set(TWICE, 1);
      }
      set(WORDS, get(WORDS) | bit);
    }

    private boolean hasType() {
      return get(GIVEN) != NONE || (get(WORDS) & typeWords()) != 0;
    }

    /** Specifiers give a type by a name or a tag. */
    private void give(int type) {
      set(TWICE, get(TWICE) | (hasType() ? 1 : 0));
      set(GIVEN, type);
    }

    /** What is wrong in the words ahead of a tag is told before what is wrong in it. */
    private void checkWords() {
      if (hasType() || get(TWICE) == 1 || Integer.bitCount(get(WORDS) & storages()) > 1) {
        fault();
      }
    }

    private void closeSpecifiers() {
      int words = get(WORDS);
      int type = get(GIVEN);
      if (type == NONE) {
        type = typeOf(words, get(LONGS));
      } else if ((words & typeWords()) != 0) {
        type = NONE;
      }
      if (type == NONE || get(TWICE) == 1 || Integer.bitCount(words & storages()) > 1) {
        fault();
      }
      set(BASE, Math.max(type, VOID));
      set(STORAGE, (words & bit(K_TYPEDEF)) != 0 ? K_TYPEDEF : (words & bit(K_EXTERN)) != 0 ? K_EXTERN
          : (words & bit(K_STATIC)) != 0 ? K_STATIC : 0);
      set(NAME, NONE);
      set(TYPE, get(BASE));
      ex.where = get(OUTSIDE);
    }

    /** The type that type words give; NONE if they give none. */
    private static int typeOf(int words, int longs) {
      int signs = words & (bit(K_SIGNED) | bit(K_UNSIGNED));
      int rest = words & typeWords() & ~signs;
      boolean unsigned = signs == bit(K_UNSIGNED);
      if (Integer.bitCount(signs) > 1) {
        return NONE;
      }
      if (signs == 0 && (rest == bit(K_VOID) || rest == bit(K_FLOAT) || rest == bit(K_DOUBLE))) {
        return rest == bit(K_VOID) ? VOID : rest == bit(K_FLOAT) ? FLOAT : DOUBLE;
      }
      if (rest == bit(K_CHAR)) {
        return unsigned ? UCHAR : CHAR;
      }
      int wide = rest & ~bit(K_INT);
      if (wide == bit(K_SHORT)) {
        return unsigned ? USHORT : SHORT;
      }
      if (wide == bit(K_LONG) && longs == 2) {
        return unsigned ? ULLONG : LLONG;
      }
      boolean plain = wide == 0 && (rest != 0 || signs != 0) || wide == bit(K_LONG) && longs == 1;
      return !plain ? NONE : unsigned ? UINT : INT;
    }

    /** The tag behind a word; NONE if there is none. */
    private int tagAt(int word) {
      return parser.kindAt(word + 1) == Parser.T_NAME ? parser.nameAt(word + 1) : NONE;
    }

    private void tag(int word, boolean alone) {
      checkWords();
      if (pieces.fault != 0) {
        return;
      }
      int kind = parser.kindAt(word);
      int symbol = symbols.tag(tagAt(word));
      if (alone && !symbols.isHere(symbol)) {
        symbol = 0;
      }
      if (symbol == 0 ? kind == K_ENUM : symbols.worth[symbol] != kind) {
        fault();
        return;
      }
      give(symbols.type[symbol == 0 ? declareTag(tagAt(word), kind) : symbol]);
    }

    private int declareTag(int name, int kind) {
      int type = kind == K_ENUM ? INT : types.newStruct(kind == K_STRUCT ? Types.STRUCT : Types.UNION);
      int symbol = symbols.add(Symbols.TAG, name, type);
      symbols.worth[symbol] = kind;
      symbols.declare(symbol);
      return symbol;
    }

    private void openEnum(int word) {
      checkWords();
      if (pieces.fault != 0) {
        return;
      }
      int name = tagAt(word);
      if (name != NONE) {
        if (symbols.isHere(symbols.tag(name))) {
          fault();
        }
        declareTag(name, K_ENUM);
      }
      open();
    }

    private void enumerator(int token, boolean told) {
      int name = parser.nameAt(token);
      int worth = told ? (int) ex.constantWorth() : get(NEXT);
      if (symbols.isHere(symbols.identifier(name)) || symbols.isTaken(name)) {
        fault();
      }
      int symbol = symbols.add(Symbols.ENUMERATOR, name, INT);
      symbols.worth[symbol] = worth;
      symbols.declare(symbol);
      set(NEXT, worth + 1);
    }

    private void openStruct(int word) {
      checkWords();
      if (pieces.fault != 0) {
        return;
      }
      int kind = parser.kindAt(word);
      int name = tagAt(word);
      int symbol = symbols.tag(name);
      if (symbols.isHere(symbol)) {
        if (symbols.worth[symbol] != kind || (symbols.flags[symbol] & Symbols.DEFINED) != 0) {
          fault();
          return;
        }
      } else {
        symbol = name == NONE ? 0 : declareTag(name, kind);
      }
      int type = symbols.type[symbol];
      if (symbol == 0) {
        type = types.newStruct(kind == K_STRUCT ? Types.STRUCT : Types.UNION);
      } else {
        symbols.flags[symbol] |= Symbols.DEFINED;
      }
      open();
      set(STRUCT, type);
      set(ALIGNMENT, 1);
      set(UNIT, NONE);
      set(LAST, NONE);
    }

    /** The member whose record is open belongs to the struct whose record is around it. */
    private void field(boolean wide) {
      int type = get(TYPE);
      int name = get(NAME) == NONE ? NONE : parser.nameAt(get(NAME));
      int struct = records[open - RECORD + STRUCT];
      if (name != NONE && types.memberCalled(struct, name) >= 0) {
        fault();
      } else if (!wide) {
        plainMember(open - RECORD, name, type);
      } else {
        long width = ex.constantWorth();
        if (type != INT && type != UINT || width < 0 || width > 32 || width == 0 && name != NONE) {
          fault();
        } else {
          bitMember(open - RECORD, name, type, (int) width);
        }
      }
    }

    private void plainMember(int struct, int name, int type) {
      if (!types.isComplete(type)) {
        fault();
        return;
      }
      boolean union = types.kind[records[struct + STRUCT]] == Types.UNION;
      long offset = union ? 0 : roundUp(records[struct + END], types.alignment[type]);
      reach(struct, offset + types.size[type], types.alignment[type]);
      records[struct + UNIT] = NONE;
      link(struct, name, type, (int) offset, Types.NONE);
    }

    /** A struct has something that ends there; far beyond the greatest struct it goes no further. */
    private void reach(int struct, long end, int alignment) {
      records[struct + END] = (int) Math.min(Math.max(records[struct + END], end), 4 * LARGEST);
      records[struct + ALIGNMENT] = Math.max(records[struct + ALIGNMENT], alignment);
    }

    private void bitMember(int struct, int name, int type, int width) {
      if (width == 0) {
        records[struct + UNIT] = NONE;
        return;
      }
      boolean union = types.kind[records[struct + STRUCT]] == Types.UNION;
      if (union || records[struct + UNIT] == NONE || records[struct + BITS_USED] + width > 32) {
        records[struct + UNIT] = union ? 0 : (int) roundUp(records[struct + END], 4);
        records[struct + BITS_USED] = 0;
        reach(struct, records[struct + UNIT] + 4, 4);
      }
      if (name != NONE) {
        link(struct, name, type, records[struct + UNIT], records[struct + BITS_USED] << 8 | width);
      }
      records[struct + BITS_USED] += width;
    }

    private void link(int struct, int name, int type, int offset, int bits) {
      int member = types.addMember(name, type, offset, bits);
      if (records[struct + LAST] == NONE) {
        types.first[records[struct + STRUCT]] = member;
      } else {
        types.nextMember[records[struct + LAST]] = member;
      }
      records[struct + LAST] = member;
    }

    private void closeStruct() {
      int type = get(STRUCT);
      long size = roundUp(get(END), get(ALIGNMENT));
      if (get(LAST) == NONE || size > LARGEST) {
        fault();
        return;
      }
      types.size[type] = (int) size;
      types.alignment[type] = get(ALIGNMENT);
      close();
      give(type);
    }

    // Declarators.

    private void declarator(int event, int n) {
      switch (event) {
        case E_DECLARATOR: set(NAME, NONE); set(MODS, modTop); return;
        case E_NAME: set(NAME, n); return;
        case E_ARRAY: arrayLength(); return;
        case E_ARRAY_OPEN: addMod(M_ARRAY, 0, 0); return;
        case E_POINTERS: addMod(M_POINTER, n, 0); return;
        case E_PARAMETERS: openParameters(n); return;
        case E_PARAMETER: open(); set(OF_PARAMETER, 1); return;
        case E_PARAMETER_END: parameter(); return;
        case E_PARAMETERS_END: closeParameters(n); return;
        case E_DECLARATOR_END: build(); return;
        case E_DECLARE: declare(n); return;
        case E_FUNCTION: openFunction(n == 1); return;
        case E_FUNCTION_END: closeFunction(n); return;
        case E_TYPE_NAME: open(); return;
        case E_TYPE_NAME_END: ex.keep(get(TYPE)); close(); return;
        default: fault();
      }
    }

    private void addMod(int kind, int number, int count) {
      mods = grown(mods, modTop + MOD);
      mods[modTop] = kind;
      mods[modTop + 1] = number;
      mods[modTop + 2] = count;
      modTop += MOD;
    }

    private void arrayLength() {
      long length = ex.constantWorth();
      if (length < 1 || length > LARGEST) {
        fault();
      }
      addMod(M_ARRAY, (int) length, 0);
    }

    private void openParameters(int ofDefinition) {
      open();
      set(BOTTOM, modTop);
      set(OF_DEFINITION, ofDefinition);
      symbols.openBlock();
    }

    private void parameter() {
      int type = get(TYPE);
      int token = get(NAME);
      if (types.isArray(type)) {
        type = types.pointerTo[types.of[type]];
      } else if (types.isFunction(type)) {
        type = types.pointerTo[type];
      }
      if (token != NONE) {
        int name = parser.nameAt(token);
        if (symbols.isHere(symbols.identifier(name))) {
          fault();
        }
        symbols.declare(symbols.add(Symbols.LOCAL, name, type));
      }
      close();
      addMod(M_PARAMETER, type, 0);
    }

    private void closeParameters(int rest) {
      int bottom = get(BOTTOM);
      if (get(OF_DEFINITION) == 1) {
        symbols.keepBlock();
      }
      symbols.closeBlock();
      int first = types.parameterTotal;
      for (int i = bottom; i < modTop; i += MOD) {
        types.addParameter(mods[i + 1]);
      }
      int count = (modTop - bottom) / MOD;
      modTop = bottom;
      close();
      addMod(M_FUNCTION, first, 2 * count + rest);
    }

    /** The type that a whole declarator makes. */
    private void build() {
      int type = get(BASE);
      int bottom = get(MODS);
      for (int i = modTop - MOD; i >= bottom && pieces.fault == 0; i -= MOD) {
        int number = mods[i + 1];
        types.reserve();
        if (mods[i] == M_POINTER) {
          for (int n = 0; n < number; n++) {
            type = types.pointer(type);
          }
        } else if (mods[i] == M_ARRAY) {
          if (types.isComplete(type)) {
            type = types.array(type, number);
            checkSize(type);
          } else {
            fault();
          }
        } else if (types.isArray(type) || types.isFunction(type)) {
          fault();
        } else {
          type = types.function(type, number, mods[i + 2] >> 1, (mods[i + 2] & 1) != 0);
        }
      }
      modTop = bottom;
      set(TYPE, type);
    }

    private void checkSize(int type) {
      if (types.size[type] > LARGEST) {
        fault();
      }
    }

    // Declarations.

    /** Declares one identifier, behind which there is an initialiser (1), a body (2) or nothing. */
    private void declare(int behind) {
      int type = get(TYPE);
      int as = get(STORAGE);
      int name = get(NAME) == NONE ? W_ZERO : parser.nameAt(get(NAME));
      boolean external = symbols.depth == 0;
      boolean here = symbols.isHere(symbols.identifier(name));
      if (as == K_TYPEDEF) {
        if (behind != 0 || here || symbols.isTaken(name)) {
          fault();
        }
        symbols.declare(symbols.add(Symbols.TYPEDEF, name, type));
        return;
      }
      boolean isFunction = types.isFunction(type);
      boolean ofUnit = external || isFunction || as == K_EXTERN;
      boolean incomplete = !types.isComplete(type) && !(types.isArray(type) && behind == 1);
      if (isFunction ? behind == 1 : type == VOID || behind == 2 || incomplete && (!ofUnit || behind == 1)) {
        fault();
      } else if (ofUnit) {
        declareOfUnit(name, type, behind, external);
      } else if (here) {
        fault();
      } else {
        int symbol = symbols.add(as == K_STATIC ? Symbols.OBJECT : Symbols.LOCAL, name, type);
        symbols.index[symbol] = as == K_STATIC ? program.facts[Program.OBJECTS]++ : takeFrame(type);
        symbols.flags[symbol] = Symbols.DEFINED;
        symbols.declare(symbol);
        set(SYMBOL, symbol);
      }
    }

    /** A place in the frame, which then goes on behind it; of an array without length where it will begin. */
    private int takeFrame(int type) {
      frame = roundUp(frame, types.alignment[type]);
      int place = (int) Math.min(frame, MOST_INT / 2);
      frame += Math.max(types.size[type], 0);
      return place;
    }

    private void declareOfUnit(int name, int type, int behind, boolean external) {
      int kind = types.isFunction(type) ? Symbols.FUNCTION : Symbols.OBJECT;
      int known = symbols.identifier(name);
      int symbol = symbols.unit(name);
      boolean here = symbols.isHere(known);
      boolean again = here && (!external || known != symbol) || symbols.isOther(name);
      if (again || name == W_MAIN && !isMain(type)) {
        fault();
        return;
      }
      if (symbol == 0) {
        symbol = symbols.add(kind, name, type);
        symbols.index[symbol] = kind == Symbols.FUNCTION ? program.addFunction(type) : program.facts[Program.OBJECTS]++;
        symbols.setUnit(name, symbol);
      } else if (symbols.kind[symbol] != kind) {
        fault();
      } else {
        symbols.type[symbol] = merged(symbols.type[symbol], type);
      }
      if (!external) {
        int alias = symbols.add(Symbols.ALIAS, name, type);
        symbols.index[alias] = symbol;
        symbols.declare(alias);
      } else if (!here) {
        symbols.declare(symbol);
      }
      if (behind != 0 && (symbols.flags[symbol] & Symbols.INITIALISED) != 0) {
        fault();
      }
      boolean defines = behind != 0 || kind == Symbols.OBJECT && external && get(STORAGE) != K_EXTERN;
      symbols.flags[symbol] |= (defines ? Symbols.DEFINED : 0) | (behind != 0 ? Symbols.INITIALISED : 0);
      set(SYMBOL, symbol);
    }

    /** The type of what is declared twice. */
    private int merged(int before, int now) {
      if (before == now) {
        return before;
      }
      boolean arrays = types.isArray(before) && types.isArray(now) && types.of[before] == types.of[now];
      if (!arrays || types.count[before] > 0 && types.count[now] > 0) {
        fault();
      }
      return types.count[before] > 0 ? before : now;
    }

    private boolean isMain(int type) {
      if (!types.isFunction(type) || types.of[type] != INT || types.takesMore(type)) {
        return false;
      }
      int count = types.parameterCount(type);
      int first = types.first[type];
      return count == 0 || count == 2 && types.parameters[first] == INT
          && types.parameters[first + 1] == Types.TEXTS;
    }

    private void openFunction(boolean near) {
      int symbol = get(SYMBOL);
      int type = symbols.type[symbol];
      int answer = types.of[type];
      if (!near || !types.isFunction(type) || answer != VOID && !types.isComplete(answer)) {
        fault();
        return;
      }
      symbols.openKeptBlock();
      int row = symbols.index[symbol] * Program.F_STRIDE;
      program.functions[row + Program.F_ENTRY] = program.codeLength;
      program.functions[row + Program.F_ANSWER] = answer == VOID ? Program.NOTHING
          : types.isRecord(answer) ? Program.RECORD : Types.isReal(answer) ? Program.REAL : Program.WHOLE;
      program.functions[row + Program.F_SIZE] = Math.max(types.size[answer], 0);
      program.functions[row + Program.F_PARAMETERS] = program.parameterCount;
      program.functions[row + Program.F_COUNT] = types.parameterCount(type);
      function = symbol;
      takeParameters(type);
      ex.tellRoom();
      ex.inFunction = true;
      ex.answerTop = 0;
      labelTop = 0;
      Arrays.fill(control, NONE);
    }

    private void takeParameters(int type) {
      frame = 0;
      int named = 0;
      int last = 0;
      for (int i = 0; i < symbols.keptCount; i++) {
        int parameter = symbols.kept[i];
        if (symbols.kind[parameter] == Symbols.LOCAL) {
          int of = symbols.type[parameter];
          if (!types.isComplete(of)) {
            fault();
            return;
          }
          symbols.index[parameter] = takeFrame(of);
          int kind = types.isRecord(of) ? -types.size[of] : types.machineKind(of);
          program.addParameter(symbols.index[parameter], kind);
          last = parameter;
          named++;
        }
      }
      if (named != types.parameterCount(type)) {
        fault();
      }
      ex.lastParameter = types.takesMore(type) ? last : 0;
    }

    private void closeFunction(int token) {
      here(token);
      int row = symbols.index[function] * Program.F_STRIDE;
      if (program.functions[row + Program.F_ANSWER] == Program.NOTHING) {
        program.emit(Machine.RETURN);
      } else if (symbols.name[function] == W_MAIN) {
        program.emit(Machine.LITERAL, 0);
        program.emit(Machine.RETURN_WHOLE);
      } else {
        program.emit(Machine.NO_ANSWER);
      }
      for (int i = 0; i < labelTop; i += 3) {
        int label = labels[i + 2] == 0 ? labelAt(labels[i]) : i;
        if (label < 0) {
          fault();
        } else if (label != i) {
          program.code[labels[i + 1] + 1] = labels[label + 1];
        }
      }
      frame = placeAnswers(ex.answers, ex.answerTop, frame);
      if (frame > LARGEST) {
        pieces.fail(5, ex.where);
      }
      program.functions[row + Program.F_FRAME] = (int) Math.min(frame, LARGEST);
      program.facts[Program.FUNCTIONS]++;
      program.facts[Program.GREATEST_FRAME] =
          Math.max(program.facts[Program.GREATEST_FRAME], (int) Math.min(frame, LARGEST));
      ex.inFunction = false;
      ex.lastParameter = 0;
      symbols.closeBlock();
    }

    private int labelAt(int name) {
      for (int i = 0; i < labelTop; i += 3) {
        if (labels[i] == name && labels[i + 2] == 1) {
          return i;
        }
      }
      return NONE;
    }

    /** Gives the answers of calls their places behind a frame's objects; the size of the whole. */
    private long placeAnswers(int[] answers, int length, long from) {
      long end = from;
      for (int i = 0; i < length; i += 2) {
        int type = answers[i + 1];
        end = roundUp(end, types.alignment[type]);
        if (answers[i] >= 0) {
          program.code[answers[i] + 3] = (int) Math.min(end, LARGEST);
        }
        end += Math.max(types.size[type], 0);
      }
      return roundUp(end, 8);
    }

    // The end of the unit.

    private void finishUnit() {
      ex.where = parser.count > 0 ? parser.places[parser.count - 1] : place(0, 1);
      program.line = 0;
      int main = symbols.unit(W_MAIN);
      if (main == 0 || (symbols.flags[main] & Symbols.DEFINED) == 0) {
        fault();
      }
      program.facts[Program.OBJECTS] = 0;
      long end = FIRST_OBJECT;
      for (int symbol = 1; symbol < symbols.count; symbol++) {
        int kind = symbols.kind[symbol];
        boolean defined = (symbols.flags[symbol] & Symbols.DEFINED) != 0;
        if (kind == Symbols.OBJECT || kind == Symbols.FUNCTION) {
          boolean used = (symbols.flags[symbol] & Symbols.USED) != 0;
          if (used && !defined || kind == Symbols.OBJECT && defined && !types.isComplete(symbols.type[symbol])) {
            fault();
          }
        }
        if (kind == Symbols.OBJECT && defined && pieces.fault == 0) {
          end = placeObject(symbol, end);
        }
      }
      if (pieces.fault == 0) {
        placeRest(end);
        program.mainFunction = symbols.index[main];
      }
    }

    private long placeObject(int symbol, long from) {
      int type = symbols.type[symbol];
      long place = roundUp(from, types.alignment[type]);
      program.objects = grown(program.objects, symbols.index[symbol]);
      program.objects[symbols.index[symbol]] = (int) Math.min(place, MOST_INT);
      program.facts[Program.OBJECTS]++;
      return place + types.size[type];
    }

    private void placeRest(long objectsEnd) {
      long end = objectsEnd;
      for (int i = 0; i < program.stringCount; i++) {
        program.strings[i * Program.S_STRIDE + Program.S_ADDRESS] = (int) Math.min(end, MOST_INT);
        end += program.strings[i * Program.S_STRIDE + Program.S_LENGTH] + 1;
      }
      end = roundUp(end, 16);
      long first = placeAnswers(ex.firstAnswers, ex.firstAnswerTop, 0);
      if (end > LAST_START || first > LARGEST) {
        pieces.fail(5, ex.where);
      }
      program.heapStart = (int) Math.min(end, LARGEST);
      program.initialFrame = (int) Math.min(first, LARGEST);
      program.facts[Program.STRINGS] = program.stringCount;
      program.facts[Program.GREATEST_FRAME] = Math.max(program.facts[Program.GREATEST_FRAME], program.initialFrame);
    }

    // Statements.

    private void statement(int event, int n) {
      switch (event) {
        case E_BLOCK: symbols.openBlock(); return;
        case E_BLOCK_END: symbols.closeBlock(); return;
        case E_LABEL: open(); here(n); label(parser.nameAt(n)); return;
        case E_CASE: open(); here(n); inSwitch(); return;
        case E_CASE_WORTH: caseWorth(); return;
        case E_DEFAULT: open(); here(n); defaultCase(); return;
        case E_EXPRESSION: case E_IF: case E_SWITCH: case E_RETURN: begin(n); return;
        case E_STATEMENT_END: ex.tellRoom(); close(); return;
        case E_THEN: ex.tellRoom(); set(FIRST, program.emit(Machine.JUMP_FALSE, 0)); return;
        case E_ELSE: otherwise(); return;
        case E_IF_END: leadHere(get(FIRST)); close(); return;
        case E_SWITCH_BODY: openSwitch(); return;
        case E_SWITCH_END: closeSwitch(); return;
        case E_WHILE: case E_DO: case E_FOR: beginLoop(n, event); return;
        case E_WHILE_BODY: whileBody(); return;
        case E_WHILE_END: endLoop(get(FIRST)); return;
        case E_DO_CONDITION: doCondition(); return;
        case E_DO_END: endDo(); return;
        case E_FOR_FIRST: set(FIRST, program.emit(Machine.STEP)); return;
        case E_FOR_CONDITION: forCondition(n == 1); return;
        case E_FOR_BODY: forBody(n == 1); return;
        case E_FOR_END: symbols.closeBlock(); endLoop(get(SECOND)); return;
        case E_GOTO: begin(n); addLabel(parser.nameAt(n + 1), program.emit(Machine.JUMP, 0), 0); return;
        case E_CONTINUE: begin(n); leave(CONTINUES); return;
        case E_BREAK: begin(n); leave(BREAKS); return;
        case E_RETURN_END: endReturn(n == 1); return;
        default: fault();
      }
    }

    /** A statement that is a step begins. */
    private void begin(int token) {
      open();
      here(token);
      program.emit(Machine.STEP);
    }

    private void leadHere(int chain) {
      program.lead(chain, program.codeLength);
    }

    private void addLabel(int name, int code, int kind) {
      labels = grown(labels, labelTop + 2);
      labels[labelTop] = name;
      labels[labelTop + 1] = code;
      labels[labelTop + 2] = kind;
      labelTop += 3;
    }

    private void label(int name) {
      if (labelAt(name) >= 0) {
        fault();
      }
      addLabel(name, program.codeLength, 1);
    }

    private void inSwitch() {
      if (control[SWITCH_TYPE] == NONE) {
        fault();
      }
    }

    private void caseWorth() {
      long worth = Types.cut(control[SWITCH_TYPE], ex.constantWorth());
      for (int i = control[SWITCH_CASES]; i < caseTop; i += 2) {
        if (cases[i] == worth) {
          fault();
        }
      }
      ex.tellRoom();
      cases = grown(cases, caseTop + 1);
      cases[caseTop++] = worth;
      cases[caseTop++] = program.codeLength;
    }

    private void defaultCase() {
      if (control[SWITCH_TYPE] == NONE || control[SWITCH_DEFAULT] != NONE) {
        fault();
      }
      control[SWITCH_DEFAULT] = program.codeLength;
    }

    private void otherwise() {
      int end = program.emit(Machine.JUMP, 0);
      leadHere(get(FIRST));
      set(FIRST, end);
    }

    /** Some of control is what it was outside of the statement whose record is open. */
    private void restoreControl(int from, int to) {
      System.arraycopy(records, open + OUTER_CONTROL + from, control, from, to - from);
    }

    /** A default in a loop is one of the switch around the loop, and stays. */
    private void leaveLoop() {
      restoreControl(BREAKS, SWITCH_TYPE);
      close();
    }

    private void keepControl() {
      System.arraycopy(control, 0, records, open + OUTER_CONTROL, CONTROL);
    }

    private void openSwitch() {
      ex.value();
      int type = ex.type();
      if (!types.isInteger(type)) {
        fault();
        return;
      }
      ex.convert(type, Types.promoted(type), false);
      ex.useValue();
      ex.tellRoom();
      set(FIRST, program.emit(Machine.SWITCH));
      keepControl();
      control[BREAKS] = 0;
      control[SWITCH_TYPE] = Types.promoted(type);
      control[SWITCH_CASES] = caseTop;
      control[SWITCH_DEFAULT] = NONE;
    }

    private void closeSwitch() {
      int first = control[SWITCH_CASES];
      int from = program.caseLength;
      int count = (caseTop - first) / 2;
      program.caseLength += 3 * count;
      program.cases = grown(program.cases, program.caseLength);
      for (int i = 0; i < count; i++) {
        program.cases[from + 3 * i] = (int) cases[first + 2 * i];
        program.cases[from + 3 * i + 1] = (int) (cases[first + 2 * i] >> 32);
        program.cases[from + 3 * i + 2] = (int) cases[first + 2 * i + 1];
      }
      int code = get(FIRST);
      program.code[code + 1] = from;
      program.code[code + 2] = count;
      program.code[code + 3] = control[SWITCH_DEFAULT] == NONE ? program.codeLength : control[SWITCH_DEFAULT];
      leadHere(control[BREAKS]);
      caseTop = first;
      // A continue in a switch is one of the loop around the switch, and stays.
      restoreControl(BREAKS, CONTINUES);
      restoreControl(SWITCH_TYPE, CONTROL);
      close();
    }

    private void beginLoop(int token, int event) {
      begin(token);
      keepControl();
      set(FIRST, program.codeLength);
      if (event == E_WHILE) {
        program.emit(Machine.STEP);
      } else if (event == E_DO) {
        control[BREAKS] = 0;
        control[CONTINUES] = 0;
      } else {
        symbols.openBlock();
      }
    }

    private void whileBody() {
      ex.tellRoom();
      control[BREAKS] = program.emit(Machine.JUMP_FALSE, 0);
      control[CONTINUES] = 0;
    }

    /** A loop's body ends; then it goes on at a place that is known. */
    private void endLoop(int next) {
      program.lead(control[CONTINUES], next);
      program.emit(Machine.JUMP, next);
      leadHere(control[BREAKS]);
      leaveLoop();
    }

    private void doCondition() {
      leadHere(control[CONTINUES]);
      program.emit(Machine.STEP);
    }

    private void endDo() {
      ex.tellRoom();
      program.emit(Machine.JUMP_TRUE, get(FIRST));
      leadHere(control[BREAKS]);
      leaveLoop();
    }

    /** The jump behind the condition leads out; behind it comes the third part, around which it goes to the body. */
    private void forCondition(boolean told) {
      control[BREAKS] = told ? program.emit(Machine.JUMP_FALSE, 0) : 0;
      control[CONTINUES] = 0;
      set(SECOND, program.emit(Machine.JUMP, 0));
    }

    private void forBody(boolean told) {
      ex.tellRoom();
      int jump = get(SECOND);
      set(SECOND, told ? jump + Machine.WORDS : get(FIRST));
      if (told) {
        program.emit(Machine.JUMP, get(FIRST));
      }
      leadHere(jump);
    }

    private void leave(int what) {
      if (control[what] == NONE) {
        fault();
      } else {
        control[what] = program.emit(Machine.JUMP, control[what]);
      }
    }

    private void endReturn(boolean told) {
      int answer = types.of[symbols.type[function]];
      if (!told) {
        if (answer != VOID) {
          fault();
        }
        program.emit(Machine.RETURN);
      } else {
        ex.valueFor(answer);
        ex.useValue();
        ex.tellRoom();
        if (types.isRecord(answer)) {
          program.emit(Machine.RETURN_RECORD, types.size[answer]);
        } else {
          program.emit(Types.isReal(answer) ? Machine.RETURN_REAL : Machine.RETURN_WHOLE);
        }
      }
      close();
    }

    // Initialisers.

    private void initialiser(int event, int n) {
      switch (event) {
        case E_INITIALISER: openInitialiser(); return;
        case E_INITIALISER_END: closeInitialiser(); return;
        case E_PART: beginPart(); return;
        case E_PART_END: endPart(); return;
        case E_BRACE: openBraces(); return;
        case E_BRACE_END: closeBraces(); return;
        case E_DESIGNATORS: beginDesignators(); return;
        case E_ELEMENT: designateElement(); return;
        case E_MEMBER_NAME: designateMember(parser.nameAt(n)); return;
        default: fault();
      }
    }

    private void openInitialiser() {
      target = symbols.meant(get(SYMBOL));
      around = 0;
      zeroed = 0;
      if (symbols.kind[target] != Symbols.LOCAL) {
        around = ex.inFunction ? program.emit(Machine.JUMP, 0) : 0;
        program.beginInitialiser();
        ex.inStatic = true;
      }
      pathTop = 0;
      goInto(NONE, 0, symbols.type[target]);
      open();
      set(PATH, NONE);
    }

    private void closeInitialiser() {
      close();
      int type = elementType();
      if (zeroed > 0) {
        program.code[zeroed + 1] = Math.max(types.size[type], 0);
      }
      if (symbols.kind[target] != Symbols.LOCAL) {
        program.endInitialiser();
        leadHere(around);
        ex.inStatic = false;
      } else if (symbols.type[target] != type) {
        frame += Math.max(types.size[type], 0);
      }
      symbols.type[target] = type;
    }

    private void goInto(int type, int offset, int index) {
      path = grown(path, pathTop + STEP);
      path[pathTop] = type;
      path[pathTop + 1] = offset;
      path[pathTop + 2] = index;
      pathTop += STEP;
    }

    /** Goes on with the first element or member of the present one. */
    private void goIntoElement() {
      int type = elementType();
      goInto(type, elementOffset(), types.isArray(type) ? 0 : types.first[type]);
    }

    private int elementType() {
      int in = path[pathTop - STEP];
      int index = path[pathTop - 1];
      return in == NONE ? index : types.isArray(in) ? types.of[in] : index < 0 ? INT : types.memberType[index];
    }

    private int elementOffset() {
      int in = path[pathTop - STEP];
      int offset = path[pathTop - 2];
      int index = path[pathTop - 1];
      if (in == NONE || index < 0) {
        return offset;
      }
      return offset + (types.isArray(in) ? index * types.size[types.of[in]] : types.memberOffset[index]);
    }

    private int elementBits() {
      int in = path[pathTop - STEP];
      int index = path[pathTop - 1];
      return in != NONE && types.isRecord(in) && index >= 0 ? types.memberBits[index] : Types.NONE;
    }

    /** Whether there is no element any more where the path stands. */
    private boolean atEnd() {
      int in = path[pathTop - STEP];
      int index = path[pathTop - 1];
      if (in == NONE) {
        return false;
      }
      return types.isArray(in) ? index >= (isOpen(in) ? BEHIND_TEXT : types.count[in]) : index < 0;
    }

    private void advance() {
      int in = path[pathTop - STEP];
      int index = path[pathTop - 1];
      if (in != NONE) {
        path[pathTop - 1] = types.isArray(in) ? isOpen(in) ? Math.min(index + 1, LARGEST) : index + 1
            : types.kind[in] == Types.UNION || index < 0 ? NONE : types.nextMember[index];
      }
    }

    /** An array without length has every element; that it becomes too long is told at the end of its braces. */
    private boolean isOpen(int type) {
      return types.isArray(type) && types.count[type] == 0;
    }

    private void address(int offset) {
      if (symbols.kind[target] == Symbols.LOCAL) {
        program.emit(Machine.LOCAL, symbols.index[target] + offset);
      } else {
        program.emit(Machine.OBJECT, symbols.index[target], offset);
      }
    }

    /** A part or braces of the innermost braces begin: it must have a place, by a designator or behind the last. */
    private void beginPart() {
      if (get(PATH) == NONE) {
        return;
      }
      int bottom = get(PATH) + STEP;
      boolean scalar = pathTop < bottom;
      if (scalar ? get(PARTS) > 0 : get(PARTS) >= 0) {
        for (int n = 0; n < MANY && pathTop > bottom && atEnd(); n++) {
          pathTop -= STEP;
          advance();
        }
        if (scalar || atEnd()) {
          fault();
        }
      }
      set(LONGEST, Math.max(get(LONGEST), scalar ? 0 : path[bottom - 1] + 1));
      set(PARTS, Math.abs(get(PARTS)) + 1);
    }

    /** The latest operand initialises the present element, or the first one in it that it fits. */
    private void endPart() {
      boolean bare = ex.bareString() >= 0;
      int type = elementType();
      boolean whole = bare && isWholeText();
      for (int n = 0; n < MANY && pieces.fault == 0 && !whole; n++) {
        boolean fits = types.isText(type) && bare || types.isScalar(type) || types.isRecord(type) && ex.type() == type;
        if (fits || get(PATH) == NONE) {
          break;
        }
        goIntoElement();
        type = elementType();
      }
      if (whole) {
        int length = program.strings[ex.bareString() * Program.S_STRIDE + Program.S_LENGTH] + 1;
        pathTop -= STEP;
        int outer = path[pathTop - 1];
        putText();
        path[pathTop - 1] = outer;
        pathTop += STEP;
        path[pathTop - 1] = BEHIND_TEXT;
        set(LONGEST, length);
      } else if (types.isText(type) && bare) {
        putText();
      } else if (types.isArray(type)) {
        fault();
      } else {
        ex.valueFor(type);
        ex.useValue();
        address(elementOffset());
        putValue(type);
      }
      if (pathTop >= get(PATH) + STEP && !whole) {
        advance();
      }
    }

    private void putValue(int type) {
      if (types.isRecord(type)) {
        program.emit(Machine.PUT_RECORD, types.size[type]);
      } else if (elementBits() != Types.NONE) {
        program.emit(Machine.PUT_BITS, elementBits());
      } else {
        program.emit(Machine.PUT, types.machineKind(type));
      }
    }

    /** Puts the string that the latest operand is into the present element, which is a char array. */
    private void putText() {
      int string = ex.bareString() * Program.S_STRIDE;
      int from = program.strings[string + Program.S_FROM];
      int length = program.strings[string + Program.S_LENGTH];
      int type = elementType();
      if (!types.isComplete(type)) {
        type = types.array(types.of[type], length + 1);
        path[pathTop - 1] = path[pathTop - STEP] == NONE ? type : path[pathTop - 1];
      }
      if (length > types.count[type]) {
        fault();
      }
      ex.dropOperand();
      program.stringCount--;
      address(elementOffset());
      program.emit(Machine.TEXT, from, length, types.size[type]);
    }

    /** Whether the innermost braces are for a char array, which their first part is the whole of if it is a string. */
    private boolean isWholeText() {
      int bottom = get(PATH);
      return bottom != NONE && get(PARTS) == 1 && pathTop == bottom + STEP && types.isText(path[bottom]);
    }

    /** Opens { } for the present element. */
    private void openBraces() {
      boolean outermost = get(PATH) == NONE;
      boolean scalar = types.isScalar(elementType());
      if (outermost) {
        address(0);
        zeroed = program.emit(Machine.ZERO, 0);
      } else {
        beginPart();
        // A scalar takes one pair of { } only.
        boolean inScalar = pathTop < get(PATH) + STEP;
        scalar = types.isScalar(elementType());
        if (inScalar) {
          fault();
        }
      }
      open();
      set(PATH, pathTop);
      if (!scalar && pieces.fault == 0) {
        goIntoElement();
      }
    }

    private void closeBraces() {
      int bottom = get(PATH);
      int longest = get(LONGEST);
      boolean scalar = pathTop < bottom + STEP;
      if (scalar && get(PARTS) == 0) {
        fault();
      }
      pathTop = bottom;
      int type = elementType();
      if (!types.isComplete(type)) {
        if (longest < 1 || longest > LARGEST) {
          fault();
        } else {
          type = types.array(types.of[type], longest);
          checkSize(type);
          path[pathTop - 1] = type;
        }
      }
      close();
      if (get(PATH) != NONE) {
        advance();
      }
    }

    /** Designators begin at what the innermost braces are for. A part behind them has its place. */
    private void beginDesignators() {
      int bottom = get(PATH) + STEP;
      if (pathTop < bottom || path[bottom - 1] == BEHIND_TEXT) {
        fault();
        return;
      }
      pathTop = bottom;
      path[pathTop - 1] = NO_ELEMENT;
      set(PARTS, -Math.max(get(PARTS), 1));
    }

    /** What a designator behind another one names something of must have elements or members. */
    private void designateIn() {
      if (path[pathTop - 1] == NO_ELEMENT) {
        return;
      }
      if (types.isScalar(elementType())) {
        fault();
      } else {
        goIntoElement();
      }
    }

    private void designateElement() {
      long index = ex.constantWorth();
      designateIn();
      if (pieces.fault == 0) {
        int in = path[pathTop - STEP];
        path[pathTop - 1] = (int) Math.max(NONE, Math.min(index, LARGEST));
        if (!types.isArray(in) || index < 0 || atEnd()) {
          fault();
        }
      }
    }

    private void designateMember(int name) {
      designateIn();
      if (pieces.fault == 0) {
        int in = path[pathTop - STEP];
        path[pathTop - 1] = types.isRecord(in) ? types.memberCalled(in, name) : NONE;
        if (path[pathTop - 1] < 0) {
          fault();
        }
      }
    }
  }

  /** The machine: its memory, its stack of values, and the doing of instructions. */
  private static final class Machine {
    // Instructions, with what stands behind them.
    private static final int DONE = 0;
    private static final int INITIALISED = 1;
    private static final int STEP = 2;
    private static final int JUMP = 3;             // to
    private static final int JUMP_FALSE = 4;       // to
    private static final int JUMP_TRUE = 5;        // to
    private static final int AND = 6;              // to
    private static final int OR = 7;               // to
    private static final int SWITCH = 8;           // first case, how many, default
    private static final int CALL = 9;             // parameters, more arguments, where in the frame the answer goes
    private static final int CHECK_CALL = 10;      // type
    private static final int RETURN = 11;
    private static final int RETURN_WHOLE = 12;
    private static final int RETURN_REAL = 13;
    private static final int RETURN_RECORD = 14;   // size
    private static final int NO_ANSWER = 15;
    private static final int SORT = 17;            // behind a LIBRARY that sorts
    private static final int NOTHING = 18;
    private static final int LITERAL = 19;         // worth
    private static final int WIDE = 20;            // lower half, upper half
    private static final int REAL = 21;            // which
    private static final int LOCAL = 22;           // place in the frame
    private static final int OBJECT = 23;          // which, place in it
    private static final int STRING = 24;          // which
    private static final int FUNCTION = 25;        // which
    private static final int OFFSET = 26;          // bytes
    private static final int POP = 27;
    private static final int COPY_TOP = 28;
    private static final int START_LIST = 29;
    private static final int NEXT_ARGUMENT = 30;   // kind
    private static final int LOAD = 32;            // kind
    private static final int STORE = 33;           // kind
    private static final int PUT = 34;             // kind
    private static final int LOAD_BITS = 35;       // bits, kind
    private static final int STORE_BITS = 36;      // bits, kind
    private static final int PUT_BITS = 37;        // bits
    private static final int COPY = 38;            // size
    private static final int PUT_RECORD = 39;      // size
    private static final int ZERO = 40;            // size
    private static final int TEXT = 41;            // where in the texts, length, size
    private static final int CHANGE = 42;          // kind, by, whether the worth before is meant
    private static final int CHANGE_BITS = 43;     // bits, kind, by times 2 and whether the worth before is meant
    private static final int CAST = 48;            // kind
    private static final int CAST_BELOW = 49;      // kind
    private static final int TO_REAL = 50;         // 1 from an unsigned long long, kind
    private static final int TO_REAL_BELOW = 51;   // 1 from an unsigned long long, kind
    private static final int TO_WHOLE = 52;        // kind
    private static final int ROUND = 53;
    private static final int TRUTH = 54;
    private static final int TRUTH_REAL = 55;
    private static final int NOT_TRUE = 56;
    private static final int AS_BITS = 57;
    private static final int NEGATE = 58;          // kind
    private static final int NEGATE_REAL = 59;     // kind
    private static final int COMPLEMENT = 60;      // kind
    private static final int INTEGERS = 61;        // sign, kind
    private static final int REALS = 62;           // sign, kind
    private static final int POINTER_ADD = 64;     // size
    private static final int ADD_POINTER = 65;     // size
    private static final int POINTER_SUBTRACT = 66; // size
    private static final int DIFFERENCE = 67;      // size
    private static final int LIBRARY = 80;         // which, parameters, more arguments

    /** How many words an instruction has: what it does, and three of what stands behind it. */
    private static final int WORDS = 4;
    private static final int MEMORY = 262144;
    private static final int FIRST = 1024;
    private static final int LAST_START = 240000;
    private static final int FUNCTIONS = 0x40000000;
    private static final long ADDRESSES = 4294967295L;
    /** More values than an instruction pushes or looks at behind the top. */
    private static final int MOST_PUSHED = 32;
    private static final int MOST_CALLS = 1000;
    private static final long MOST_INSTRUCTIONS = 1L << 40;
    // What is kept of an active call.
    private static final int FRAME = 6;
    private static final int RETURN_TO = 0;
    private static final int BASE = 1;
    private static final int STACK_END = 2;
    private static final int OF = 3;
    private static final int ANSWER = 4;
    private static final int BOTTOM = 5;
    // Phases of a run.
    private static final int BEFORE_MAIN = 0;
    private static final int IN_MAIN = 1;
    private static final int LEAVING = 2;

    private Program program = new Program();
    private final Library library = new Library();
    private final byte[] memory = new byte[MEMORY];
    /** The stack of values: whole numbers and addresses in one row, floating ones in the other. */
    private long[] whole = new long[1024];
    private double[] real = new double[1024];
    private int top;
    private int pc;
    private int base;
    private int stackEnd;
    private int heapStart;
    private int heapEnds;
    private int lowestStack;
    private final int[] frames = new int[FRAME * (MOST_CALLS + 1)];
    private int depth;
    private int stepsMade;
    private int fuel;
    /** Below 0 while the program runs. */
    private int outcome;
    private int exitValue;
    private int lineOfTrap;
    private int strayed;
    private int phase;

    private void perform(Program what, int mostSteps, byte[] input, byte[][] arguments, int argumentCount) {
      program = what;
      fuel = mostSteps;
      beginRun();
      library.beginRun(input);
      layStrings();
      push(FUNCTIONS + 16L * program.mainFunction);
      if (mainParameters() > 0) {
        layArguments(arguments, argumentCount);
      }
      heapEnds = heapStart;
      openInitialFrame();
      for (long n = 0; n < MOST_INSTRUCTIONS && outcome < 0; n++) {
        if (pc < 0 || pc >= program.codeLength) {
          stray();
          break;
        }
        int at = pc;
        pc += WORDS;
        if (top + MOST_PUSHED > whole.length) {
          whole = grown(whole, top + MOST_PUSHED);
          real = grown(real, top + MOST_PUSHED);
        }
        switch (program.code[at] >> 4) {
          case 0: flow(at); break;
          case 1: stackWork(at); break;
          case 2: memoryWork(at); break;
          case 3: valueWork(at); break;
          case 4: pointerWork(at); break;
          default: callLibrary(at);
        }
      }
      lineOfTrap = outcome == 0 ? 0 : program.lineAt(pc - WORDS);
    }

    private void beginRun() {
      Arrays.fill(memory, (byte) 0);
      top = 0;
      pc = 2 * WORDS;
      base = MEMORY;
      stackEnd = MEMORY;
      lowestStack = MEMORY;
      heapStart = program.heapStart;
      depth = 0;
      stepsMade = 0;
      outcome = -1;
      exitValue = 0;
      strayed = 0;
      phase = BEFORE_MAIN;
    }

    private int mainParameters() {
      return program.functions[program.mainFunction * Program.F_STRIDE + Program.F_COUNT];
    }

    private void layStrings() {
      for (int i = 0; i < program.stringCount; i++) {
        int string = i * Program.S_STRIDE;
        System.arraycopy(program.texts, program.strings[string + Program.S_FROM], memory,
            program.strings[string + Program.S_ADDRESS], program.strings[string + Program.S_LENGTH]);
      }
    }

    /** Lays "c" and the arguments at the heap's beginning, and behind them their addresses, for main. */
    private void layArguments(byte[][] arguments, int count) {
      long end = heapStart + 2;
      for (int i = 0; i < count; i++) {
        end += arguments[i].length + 1;
      }
      long row = (end + 3) / 4 * 4;
      long behind = (row + 4L * (count + 2) + 15) / 16 * 16;
      if (behind > LAST_START) {
        outcome = 2;
        return;
      }
      int at = heapStart;
      memory[at] = 'c';
      write((int) row, 4, at);
      at += 2;
      for (int i = 0; i < count; i++) {
        System.arraycopy(arguments[i], 0, memory, at, arguments[i].length);
        write((int) row + 4 * (i + 1), 4, at);
        at += arguments[i].length + 1;
      }
      push(count + 1);
      push(row);
      heapStart = (int) behind;
    }

    private void openInitialFrame() {
      int begin = MEMORY - program.initialFrame;
      if (program.initialFrame > 0 && outcome < 0) {
        if (begin < heapEnds) {
          outcome = 2;
        } else {
          base = begin;
          stackEnd = begin;
          lowestStack = begin;
        }
      }
    }

    /** Ends the run, if it goes on; the line is that of the present instruction. */
    private void trap(int what) {
      if (outcome < 0) {
        outcome = what;
      }
    }

    /** What is met here can't be in a right system. */
    private void stray() {
      strayed++;
      outcome = 10;
    }

    private void step() {
      if (stepsMade >= fuel) {
        outcome = 9;
      } else {
        stepsMade++;
      }
    }

    private void push(long value) {
      if (top < whole.length) {
        whole[top++] = value;
      } else {
        stray();
      }
    }

    private void pushReal(double value) {
      if (top < real.length) {
        real[top++] = value;
      } else {
        stray();
      }
    }

    private long pop() {
      if (top <= 0) {
        stray();
        return 0;
      }
      return whole[--top];
    }

    private double popReal() {
      if (top <= 0) {
        stray();
        return 0;
      }
      return real[--top];
    }

    // Where it goes on.

    private void flow(int at) {
      int to = program.code[at + 1];
      switch (program.code[at]) {
        case DONE: done(); return;
        case INITIALISED: callMain(); return;
        case STEP: step(); return;
        case JUMP: pc = to; return;
        case JUMP_FALSE: pc = pop() == 0 ? to : pc; return;
        case JUMP_TRUE: pc = pop() != 0 ? to : pc; return;
        case AND: keepIf(false, to); return;
        case OR: keepIf(true, to); return;
        case SWITCH: goToCase(to, program.code[at + 2], program.code[at + 3]); return;
        case CALL: call(to, program.code[at + 2], base + program.code[at + 3], pc); return;
        case CHECK_CALL: checkCall(to); return;
        case RETURN: leave(); return;
        case RETURN_WHOLE: returnWhole(); return;
        case RETURN_REAL: returnReal(); return;
        case RETURN_RECORD: returnRecord(to); return;
        default: trap(8);
      }
    }

    /** The first operand of && or || stays if it decides. */
    private void keepIf(boolean when, int to) {
      if (top > 0 && whole[top - 1] != 0 == when) {
        pc = to;
      } else {
        pop();
      }
    }

    private void goToCase(int from, int count, int otherwise) {
      long value = pop();
      for (int i = from; i < from + 3 * count; i += 3) {
        long worth = (long) program.cases[i + 1] << 32 | program.cases[i] & ADDRESSES;
        if (worth == value) {
          pc = program.cases[i + 2];
          return;
        }
      }
      pc = otherwise;
    }

    private void done() {
      if (phase == IN_MAIN) {
        exitValue = (int) pop() & 255;
        phase = LEAVING;
      }
      if (library.exitCount == 0) {
        outcome = 0;
        return;
      }
      top = 0;
      stackEnd = MEMORY;
      depth = 0;
      push(library.takeExit());
      checkCall(Types.LEAVING);
      call(0, 0, 0, 0);
    }

    /** Ends the program in its orderly way: what atexit was given is called first. */
    private void exit(int value) {
      exitValue = value & 255;
      if (phase == LEAVING) {
        outcome = 0;
      }
      phase = LEAVING;
      top = 0;
      pc = 0;
    }

    private void callMain() {
      phase = IN_MAIN;
      stackEnd = MEMORY;
      call(mainParameters(), 0, 0, 0);
    }

    /** The function at an address; -1 if there is none with a body. */
    private int functionAt(long address) {
      long distance = address - FUNCTIONS;
      if (distance < 0 || distance % 16 != 0 || distance / 16 >= program.functionCount) {
        return -1;
      }
      int function = (int) (distance / 16);
      return program.functions[function * Program.F_STRIDE + Program.F_ENTRY] < 0 ? -1 : function;
    }

    private void checkCall(int type) {
      int function = top > 0 ? functionAt(whole[top - 1]) : -1;
      if (function < 0 || program.functions[function * Program.F_STRIDE + Program.F_TYPE] != type) {
        trap(7);
      }
    }

    /** Calls the function whose address lies below its arguments. */
    private void call(int fixed, int more, int answer, int back) {
      int bottom = top - fixed - more - 1;
      int function = bottom < 0 ? -1 : functionAt(whole[bottom]);
      if (function < 0 || outcome >= 0) {
        if (outcome < 0) {
          stray();
        }
        return;
      }
      int size = program.functions[function * Program.F_STRIDE + Program.F_FRAME];
      long begin = stackEnd - 8L * more - size;
      if (depth >= MOST_CALLS || begin < heapEnds) {
        trap(2);
        return;
      }
      step();
      if (outcome >= 0) {
        return;
      }
      int frame = depth * FRAME;
      frames[frame + RETURN_TO] = back;
      frames[frame + BASE] = base;
      frames[frame + STACK_END] = stackEnd;
      frames[frame + OF] = function;
      frames[frame + ANSWER] = answer;
      frames[frame + BOTTOM] = bottom;
      depth++;
      putPlaces(bottom + 1 + fixed, more);
      stackEnd = (int) begin;
      base = stackEnd;
      lowestStack = Math.min(lowestStack, stackEnd);
      Arrays.fill(memory, base, base + size, (byte) 0);
      putParameters(function, fixed, bottom + 1);
      if (outcome < 0) {
        top = bottom;
        pc = program.functions[function * Program.F_STRIDE + Program.F_ENTRY];
      }
    }

    /** Puts values from the stack into places of 8 bytes right below the stack's end. */
    private void putPlaces(int from, int count) {
      for (int i = 0; i < count; i++) {
        write(stackEnd - 8 * (count - i), 8, whole[from + i]);
      }
    }

    private void putParameters(int function, int count, int from) {
      int first = program.functions[function * Program.F_STRIDE + Program.F_PARAMETERS];
      for (int i = 0; i < count && outcome < 0; i++) {
        int place = base + program.parameters[2 * (first + i)];
        int kind = program.parameters[2 * (first + i) + 1];
        if (kind < 0) {
          copy(place, whole[from + i], -kind);
        } else {
          store(kind, place, from + i);
        }
      }
    }

    private void leave() {
      if (depth <= 0) {
        stray();
        return;
      }
      depth--;
      int frame = depth * FRAME;
      pc = frames[frame + RETURN_TO];
      base = frames[frame + BASE];
      stackEnd = frames[frame + STACK_END];
      top = frames[frame + BOTTOM];
    }

    private void returnWhole() {
      long value = pop();
      leave();
      push(value);
    }

    private void returnReal() {
      double value = popReal();
      leave();
      pushReal(value);
    }

    private void returnRecord(int size) {
      long from = pop();
      int to = depth > 0 ? frames[(depth - 1) * FRAME + ANSWER] : 0;
      if (copy(to, from, size)) {
        leave();
        push(to);
      }
    }

    // The stack.

    private void stackWork(int at) {
      int a = program.code[at + 1];
      int b = program.code[at + 2];
      switch (program.code[at]) {
        case SORT: compareIf(library.goesOnSorting(this, (int) pop()), at); return;
        case NOTHING: return;
        case LITERAL: push(a); return;
        case WIDE: push(a & ADDRESSES | (long) b << 32); return;
        case REAL: pushReal(program.reals[a]); return;
        case LOCAL: push(base + a); return;
        case OBJECT: push(program.objects[a] + b); return;
        case STRING: push(program.strings[a * Program.S_STRIDE + Program.S_ADDRESS]); return;
        case FUNCTION: push(FUNCTIONS + 16L * a); return;
        case OFFSET: push(pop() + a & ADDRESSES); return;
        case POP: pop(); return;
        case COPY_TOP: copyTop(); return;
        case START_LIST: startList(); return;
        case NEXT_ARGUMENT: nextArgument(a); return;
        default: stray();
      }
    }

    private void copyTop() {
      long value = pop();
      push(value);
      push(value);
    }

    private void startList() {
      long variable = pop();
      int function = depth > 0 ? frames[(depth - 1) * FRAME + OF] : 0;
      int size = program.functions[function * Program.F_STRIDE + Program.F_FRAME];
      if (reaches(variable, 4)) {
        write((int) variable, 4, base + size);
      }
    }

    private void nextArgument(int kind) {
      long variable = pop();
      if (!reaches(variable, 4)) {
        return;
      }
      long from = read((int) variable, 4) & ADDRESSES;
      load(kind, from);
      if (outcome < 0) {
        write((int) variable, 4, from + 8);
      }
    }

    /** Calls what a sorting compares with, if it still does. */
    private void compareIf(boolean more, int back) {
      if (more && outcome < 0) {
        library.pushComparison(this);
        call(2, 0, 0, back);
      }
    }

    private void callLibrary(int at) {
      int which = program.code[at + 1];
      int more = program.code[at + 3];
      int bottom = top - program.code[at + 2] - more;
      int end = stackEnd;
      long begin = stackEnd - 8L * more;
      if (program.code[at] != LIBRARY || bottom < 0) {
        stray();
      } else if (more > 0 && begin < heapEnds) {
        trap(2);
      } else if (which == Library.QSORT) {
        compareIf(library.beginsSorting(this, bottom), pc);
      } else if (which == Library.EXIT) {
        exit((int) whole[bottom]);
      } else {
        putPlaces(top - more, more);
        stackEnd = (int) begin;
        lowestStack = Math.min(lowestStack, stackEnd);
        top = bottom;
        if (which >= Library.FABS && which <= Library.CEIL) {
          pushReal(library.realFunction(this, which, real[bottom]));
        } else {
          long a = whole[bottom];
          long b = whole[bottom + 1];
          long answer;
          if (which == Library.SCANF || which == Library.SSCANF) {
            answer = library.scan(this, which, a, b);
          } else if (which >= Library.PRINTF && which <= Library.SPRINTF) {
            answer = library.print(this, which, a, b);
          } else {
            answer = libraryFunction(which, a, b, whole[bottom + 2]);
          }
          if (which != Library.ABORT && which != Library.SRAND && which != Library.FREE) {
            push(answer);
          }
        }
        stackEnd = end;
      }
    }

    private long libraryFunction(int which, long a, long b, long c) {
      if (which <= Library.UNGETC) {
        return library.streamFunction(this, which, a, b, c);
      }
      if (which <= Library.MEMCHR) {
        return library.textFunction(this, which, a, b, c);
      }
      if (which >= Library.MALLOC) {
        return which == Library.MALLOC ? library.allocate(this, a) : which == Library.FREE ? library.release(this, a)
            : which == Library.CALLOC ? library.allocateClear(this, a, b) : library.reallocate(this, a, b);
      }
      return which <= Library.TOLOWER ? Library.letterFunction(which, (int) a)
          : library.otherFunction(this, which, a, b, c);
    }

    // Memory.

    /** Whether there are so many bytes from an address on, if the run goes on; if not, that is a trap. */
    private boolean reaches(long address, long count) {
      if (outcome < 0 && (address < FIRST || address + count > MEMORY)) {
        outcome = 1;
      }
      return outcome < 0;
    }

    private long read(int address, int count) {
      long value = 0;
      for (int i = count - 1; i >= 0; i--) {
        value = value << 8 | memory[address + i] & 255;
      }
      return value;
    }

    private void write(int address, int count, long value) {
      for (int i = 0; i < count; i++) {
        memory[address + i] = (byte) (value >> 8 * i);
      }
    }

    private int byteAt(long address) {
      if (address >= FIRST && address < MEMORY) {
        return memory[(int) address] & 255;
      }
      outcome = outcome < 0 ? 1 : outcome;
      return 0;
    }

    /** Behind a trap nothing is stored any more. */
    private void setByte(long address, int value) {
      if (address < FIRST || address >= MEMORY) {
        outcome = outcome < 0 ? 1 : outcome;
      } else if (outcome < 0) {
        memory[(int) address] = (byte) value;
      }
    }

    /** Four bytes as a number without sign. */
    private long wordAt(long address) {
      if (address < FIRST || address + 4 > MEMORY) {
        outcome = outcome < 0 ? 1 : outcome;
        return 0;
      }
      int at = (int) address;
      return (memory[at] & 255 | (memory[at + 1] & 255) << 8 | (memory[at + 2] & 255) << 16
          | memory[at + 3] << 24) & ADDRESSES;
    }

    private int byteLeft(long address) {
      return address >= 0 && address < MEMORY ? memory[(int) address] & 255 : 0;
    }

    private static int sizeOf(int kind) {
      switch (kind) {
        case CHAR: case UCHAR: return 1;
        case SHORT: case USHORT: return 2;
        case LLONG: case ULLONG: case DOUBLE: return 8;
        default: return 4;
      }
    }

    /** Pushes the value of a kind that lies at an address. */
    private void load(int kind, long address) {
      int size = sizeOf(kind);
      if (!reaches(address, size)) {
        return;
      }
      long bits = read((int) address, size);
      if (kind < FLOAT) {
        push(Types.cut(kind, bits));
      } else if (kind == FLOAT ? isNoFloat((int) bits) : isNoNumber(bits)) {
        trap(6);
      } else {
        pushReal(kind == FLOAT ? floatOf((int) bits) : realOf(bits));
      }
    }

    /** Puts the value at a place of the stack to an address. */
    private boolean store(int kind, long address, int from) {
      int size = sizeOf(kind);
      if (!reaches(address, size)) {
        return false;
      }
      long bits = kind < FLOAT ? whole[from] : bitsOf(real[from]);
      write((int) address, size, kind == FLOAT ? floatBits(bits) : bits);
      return true;
    }

    private boolean copy(long to, long from, int size) {
      if (!reaches(from, size) || !reaches(to, size)) {
        return false;
      }
      System.arraycopy(memory, (int) from, memory, (int) to, size);
      return true;
    }

    private void memoryWork(int at) {
      int a = program.code[at + 1];
      int b = program.code[at + 2];
      int c = program.code[at + 3];
      switch (program.code[at]) {
        case LOAD: load(a, pop()); return;
        case STORE: assign(a); return;
        case PUT: put(a); return;
        case LOAD_BITS: loadBits(a, b); return;
        case STORE_BITS: assignBits(a, b); return;
        case PUT_BITS: putBits(a); return;
        case COPY: assignRecord(a); return;
        case PUT_RECORD: putRecord(a); return;
        case ZERO: fill(pop(), a); return;
        case TEXT: putText(a, b, c); return;
        case CHANGE: change(a, b, c); return;
        case CHANGE_BITS: changeBits(a, b, c); return;
        default: stray();
      }
    }

    /** Address and value become the value, which is put there. */
    private void assign(int kind) {
      if (top < 2) {
        stray();
      } else if (store(kind, whole[top - 2], top - 1)) {
        whole[top - 2] = whole[top - 1];
        real[top - 2] = real[top - 1];
        top--;
      }
    }

    private void put(int kind) {
      if (top < 2) {
        stray();
      } else if (store(kind, whole[top - 1], top - 2)) {
        top -= 2;
      }
    }

    private static long bitsIn(long unit, int bits, int kind) {
      int shift = 64 - (bits & 255) - (bits >> 8);
      int rest = 64 - (bits & 255);
      return kind == INT ? unit << shift >> rest : unit << shift >>> rest;
    }

    private void loadBits(int bits, int kind) {
      long address = pop();
      if (reaches(address, 4)) {
        push(bitsIn(read((int) address, 4), bits, kind));
      }
    }

    private boolean setBits(long address, int bits, long value) {
      if (!reaches(address, 4)) {
        return false;
      }
      long mask = (1L << (bits & 255)) - 1 << (bits >> 8);
      long unit = read((int) address, 4);
      write((int) address, 4, unit & ~mask | value << (bits >> 8) & mask);
      return true;
    }

    private void assignBits(int bits, int kind) {
      long value = pop();
      if (setBits(pop(), bits, value)) {
        push(bitsIn(value << (bits >> 8), bits, kind));
      }
    }

    private void putBits(int bits) {
      long address = pop();
      setBits(address, bits, pop());
    }

    private void assignRecord(int size) {
      long from = pop();
      long to = pop();
      if (copy(to, from, size)) {
        push(to);
      }
    }

    private void putRecord(int size) {
      long to = pop();
      copy(to, pop(), size);
    }

    private void fill(long address, int size) {
      if (reaches(address, size)) {
        Arrays.fill(memory, (int) address, (int) address + size, (byte) 0);
      }
    }

    private void putText(int from, int length, int size) {
      long address = pop();
      if (reaches(address, size)) {
        fill(address, size);
        System.arraycopy(program.texts, from, memory, (int) address, Math.min(length, size));
      }
    }

    /** ++ and --. */
    private void change(int kind, int by, int before) {
      long address = pop();
      load(kind, address);
      if (outcome >= 0) {
        return;
      }
      if (kind >= FLOAT) {
        double old = real[top - 1];
        real[top - 1] = kind == FLOAT ? (double) ((float) old + (float) by) : old + by;
        store(kind, address, top - 1);
        real[top - 1] = before == 1 ? old : real[top - 1];
      } else {
        long old = whole[top - 1];
        whole[top - 1] = Types.cut(kind, old + by);
        store(kind, address, top - 1);
        whole[top - 1] = before == 1 ? old : whole[top - 1];
      }
    }

    private void changeBits(int bits, int kind, int how) {
      long address = pop();
      if (reaches(address, 4)) {
        long old = bitsIn(read((int) address, 4), bits, kind);
        long now = old + (how >> 1);
        setBits(address, bits, now);
        push((how & 1) == 1 ? old : bitsIn(now << (bits >> 8), bits, kind));
      }
    }

    // Values.

    private void valueWork(int at) {
      int a = program.code[at + 1];
      int b = program.code[at + 2];
      switch (program.code[at]) {
        case CAST: push(Types.cut(a, pop())); return;
        case CAST_BELOW: castBelow(a); return;
        case TO_REAL: toReal(top - 1, a, b); return;
        case TO_REAL_BELOW: toReal(top - 2, a, b); return;
        case TO_WHOLE: toWhole(a); return;
        case ROUND: pushReal((double) (float) popReal()); return;
        case TRUTH: push(pop() != 0 ? 1 : 0); return;
        case TRUTH_REAL: push(popReal() != 0 ? 1 : 0); return;
        case NOT_TRUE: push(pop() == 0 ? 1 : 0); return;
        case AS_BITS: push(bitsOf(popReal())); return;
        case NEGATE: push(Types.cut(a, -pop())); return;
        case NEGATE_REAL: pushReal(popReal() * -1.0); return;
        case COMPLEMENT: push(Types.cut(a, ~pop())); return;
        case INTEGERS: workIntegers(a, b); return;
        case REALS: workReals(a, b); return;
        default: stray();
      }
    }

    private void castBelow(int kind) {
      if (top < 2) {
        stray();
      } else {
        whole[top - 2] = Types.cut(kind, whole[top - 2]);
      }
    }

    private void toReal(int at, int unsigned, int kind) {
      if (at < 0) {
        stray();
        return;
      }
      long value = whole[at];
      if (unsigned == 1 && value < 0) {
        // Half of it, with a last bit that tells whether something was cut, so that it rounds once.
        long half = value >>> 1 | value & 1;
        real[at] = kind == FLOAT ? (double) ((float) half * 2.0f) : (double) half * 2.0;
      } else {
        real[at] = kind == FLOAT ? (double) (float) value : (double) value;
      }
    }

    private void toWhole(int kind) {
      double value = popReal();
      boolean fits;
      switch (kind) {
        case CHAR: fits = value > -129 && value < 128; break;
        case UCHAR: fits = value > -1 && value < 256; break;
        case SHORT: fits = value > -32769 && value < 32768; break;
        case USHORT: fits = value > -1 && value < 65536; break;
        case INT: fits = value > -2147483649.0 && value < 2147483648.0; break;
        case UINT: fits = value > -1 && value < 4294967296.0; break;
        case LLONG: fits = value >= -9223372036854775808.0 && value < 9223372036854775808.0; break;
        default: fits = value > -1 && value < 18446744073709551616.0;
      }
      if (!fits) {
        trap(5);
      } else if (value >= 9223372036854775808.0) {
        push((long) (value - 9223372036854775808.0) ^ LEAST_LONG);
      } else {
        push((long) value);
      }
    }

    /** The trap of a binary operator on integers of a kind whose right one this is; 0 for none. */
    private static int trapOf(int sign, int kind, long right) {
      if ((sign == SLASH || sign == PERCENT) && right == 0) {
        return 3;
      }
      boolean shifts = sign == SHIFT_LEFT || sign == SHIFT_RIGHT;
      return shifts && (right < 0 || right >= (kind < LLONG ? 32 : 64)) ? 4 : 0;
    }

    /** The result of a binary operator on two integers of a kind; right is none with which it traps. */
    private static long worked(int sign, int kind, long a, long b) {
      switch (sign) {
        case STAR: return Types.cut(kind, a * b);
        case SLASH: return b == 0 ? 0 : Types.cut(kind, kind == ULLONG ? Types.quotient(a, b) : a / b);
        case PERCENT: return b == 0 ? 0 : Types.cut(kind, kind == ULLONG ? a - Types.quotient(a, b) * b : a % b);
        case PLUS: return Types.cut(kind, a + b);
        case MINUS: return Types.cut(kind, a - b);
        case SHIFT_LEFT: return Types.cut(kind, a << b);
        case SHIFT_RIGHT: return kind == ULLONG ? a >>> b : a >> b;
        case AMPERSAND: return a & b;
        case CARET: return Types.cut(kind, a ^ b);
        case BAR: return a | b;
        default: return holds(sign, kind == ULLONG ? Long.compare(a ^ LEAST_LONG, b ^ LEAST_LONG) : Long.compare(a, b)) ? 1 : 0;
      }
    }

    private static boolean holds(int sign, int order) {
      switch (sign) {
        case LESS: return order < 0;
        case GREATER: return order > 0;
        case LESS_EQUAL: return order <= 0;
        case GREATER_EQUAL: return order >= 0;
        case EQUAL: return order == 0;
        default: return order != 0;
      }
    }

    private void workIntegers(int sign, int kind) {
      long b = pop();
      long a = pop();
      int wrong = trapOf(sign, kind, b);
      if (wrong != 0) {
        trap(wrong);
      } else {
        push(worked(sign, kind, a, b));
      }
    }

    private static boolean isInfinite(double x) {
      return x > 0x1.fffffffffffffp1023 || x < -0x1.fffffffffffffp1023;
    }

    private void workReals(int sign, int kind) {
      double b = popReal();
      double a = popReal();
      if (sign != STAR && sign != SLASH && sign != PLUS && sign != MINUS) {
        push(holds(sign, a < b ? -1 : a > b ? 1 : 0) ? 1 : 0);
        return;
      }
      boolean both = isInfinite(a) && isInfinite(b);
      boolean no = sign == STAR && (isInfinite(a) && b == 0 || isInfinite(b) && a == 0)
          || sign == SLASH && (both || a == 0 && b == 0)
          || sign == PLUS && both && a != b || sign == MINUS && both && a == b;
      if (no) {
        trap(6);
      } else if (kind == FLOAT) {
        float x = (float) a;
        float y = (float) b;
        float z = sign == STAR ? x * y : sign == SLASH ? x / y : sign == PLUS ? x + y : x - y;
        pushReal((double) z);
      } else {
        pushReal(sign == STAR ? a * b : sign == SLASH ? a / b : sign == PLUS ? a + b : a - b);
      }
    }

    private void pointerWork(int at) {
      int size = program.code[at + 1];
      long b = pop();
      long a = pop();
      switch (program.code[at]) {
        case POINTER_ADD: push(a + (long) (int) b * size & ADDRESSES); return;
        case ADD_POINTER: push(b + (long) (int) a * size & ADDRESSES); return;
        case POINTER_SUBTRACT: push(a - (long) (int) b * size & ADDRESSES); return;
        case DIFFERENCE: push(size == 0 ? 0 : (int) (a - b) / size); return;
        default: stray();
      }
    }

    // Floating numbers and their bits.

    private static boolean isNoNumber(long bits) {
      return (bits & 0x7fffffffffffffffL) > 0x7ff0000000000000L;
    }

    private static boolean isNoFloat(int bits) {
      return (bits & 0x7fffffff) > 0x7f800000;
    }

    /** A number times a power of 2, which comes out exactly. */
    private static double scaled(double x, int power) {
      double result = x;
      double factor = power > 0 ? 2.0 : 0.5;
      int rest = Math.abs(power);
      for (int bit = 0; bit < 11; bit++) {
        if ((rest >> bit & 1) != 0) {
          result = result * factor;
        }
        factor = factor * factor;
      }
      return result;
    }

    private static double realOf(long bits) {
      int exponent = (int) (bits >>> 52) & 2047;
      long fraction = bits & 0xfffffffffffffL;
      double size;
      if (exponent == 2047) {
        size = 1e308 * 10.0;
      } else if (exponent == 0) {
        size = (double) fraction * 0x1p-1074;
      } else {
        size = scaled((double) (fraction | 0x10000000000000L), exponent - 1075);
      }
      return bits < 0 ? size * -1.0 : size;
    }

    private static double floatOf(int bits) {
      int exponent = bits >>> 23 & 255;
      int fraction = bits & 0x7fffff;
      double size;
      if (exponent == 255) {
        size = 1e308 * 10.0;
      } else if (exponent == 0) {
        size = (double) fraction * 0x1p-149;
      } else {
        size = scaled((double) (fraction | 0x800000), exponent - 150);
      }
      return bits < 0 ? size * -1.0 : size;
    }

    /** The bits of a number; those of a float that is made a double are taken by floatBits from these. */
    private static long bitsOf(double x) {
      boolean negative = x < 0 || x == 0 && 1.0 / x < 0;
      long sign = negative ? LEAST_LONG : 0;
      double rest = x < 0 ? x * -1.0 : x;
      if (rest == 0) {
        return sign;
      }
      if (rest > 0x1.fffffffffffffp1023) {
        return sign | 0x7ff0000000000000L;
      }
      // The power of 2 at or right below it: what is left is 1 or more and below 2.
      int exponent = 0;
      for (int n = 0; n < 17 && (rest >= 0x1p64 || rest < 0x1p-64); n++) {
        exponent += rest >= 1.0 ? 64 : -64;
        rest = rest * (rest >= 1.0 ? 0x1p-64 : 0x1p64);
      }
      for (int n = 0; n < 64 && (rest >= 2.0 || rest < 1.0); n++) {
        exponent += rest >= 2.0 ? 1 : -1;
        rest = rest * (rest >= 2.0 ? 0.5 : 2.0);
      }
      long fraction = (long) (rest * 0x1p52);
      if (exponent < -1022) {
        return sign | fraction >> -1022 - exponent;
      }
      return sign | (long) (exponent + 1023) << 52 | fraction & 0xfffffffffffffL;
    }

    /** The bits of a float, from those of the double that it is. */
    private static int floatBits(long bits) {
      int sign = (int) (bits >>> 32) & 0x80000000;
      int exponent = (int) (bits >>> 52 & 2047) - 1023;
      long fraction = bits & 0xfffffffffffffL;
      if (exponent == 1024) {
        return sign | 0x7f800000;
      }
      if (exponent >= -126) {
        return sign | exponent + 127 << 23 | (int) (fraction >> 29);
      }
      int shift = 29 - 126 - exponent;
      return shift > 53 ? sign : sign | (int) ((fraction | 0x10000000000000L) >> shift);
    }
  }

  /** The library's functions, with the streams that they read and write. */
  private static final class Library {
    // The functions, in the order in which Symbols names them.
    private static final int PUTCHAR = 0;
    private static final int PUTC = 1;
    private static final int FPUTC = 2;
    private static final int PUTS = 3;
    private static final int FPUTS = 4;
    private static final int GETCHAR = 5;
    private static final int GETC = 6;
    private static final int FGETC = 7;
    private static final int FGETS = 8;
    private static final int UNGETC = 9;
    private static final int PRINTF = 10;
    private static final int FPRINTF = 11;
    private static final int SPRINTF = 12;
    private static final int SCANF = 13;
    private static final int SSCANF = 14;
    private static final int STRLEN = 15;
    private static final int STRCPY = 16;
    private static final int STRNCPY = 17;
    private static final int STRCAT = 18;
    private static final int STRNCAT = 19;
    private static final int STRCMP = 20;
    private static final int STRNCMP = 21;
    private static final int STRCHR = 22;
    private static final int STRRCHR = 23;
    private static final int STRSTR = 24;
    private static final int MEMCPY = 25;
    private static final int MEMMOVE = 26;
    private static final int MEMSET = 27;
    private static final int MEMCMP = 28;
    private static final int MEMCHR = 29;
    private static final int ISDIGIT = 30;
    private static final int TOUPPER = 39;
    private static final int TOLOWER = 40;
    private static final int ABS = 41;
    private static final int LABS = 42;
    private static final int LLABS = 43;
    private static final int ATOI = 44;
    private static final int ATOL = 45;
    private static final int ATOLL = 46;
    private static final int STRTOL = 47;
    private static final int FABS = 48;
    private static final int SQRT = 49;
    private static final int FLOOR = 50;
    private static final int CEIL = 51;
    private static final int EXIT = 52;
    private static final int ABORT = 53;
    private static final int ATEXIT = 54;
    private static final int QSORT = 55;
    private static final int SRAND = 56;
    private static final int RAND = 57;
    private static final int MALLOC = 58;
    private static final int CALLOC = 59;
    private static final int REALLOC = 60;
    private static final int FREE = 61;
    private static final int VA_START = 62;

    private static final int STDIN = 1;
    private static final int STDOUT = 2;
    private static final int STDERR = 3;
    private static final int MOST_WRITTEN = 32768;
    private static final int MOST_EXITS = 32;
    private static final int LARGEST = 240000;
    private static final int STACK_ROOM = 4096;
    /** A width or precision that is told as larger does the same. */
    private static final int WIDEST = 1000000;
    // Flags of a conversion, and how wide its argument is told to be.
    private static final int MINUS_FLAG = 1;
    private static final int PLUS_FLAG = 2;
    private static final int BLANK_FLAG = 4;
    private static final int ZERO_FLAG = 8;
    private static final int HASH_FLAG = 16;
    private static final String FLAGS = "-+ 0#";
    private static final int AS_CHAR = 1;
    private static final int AS_SHORT = 2;
    private static final int PLAIN = 3;
    private static final int AS_LONG = 4;
    private static final int AS_WIDE = 5;
    // Exact decimals.
    private static final int LIMBS = 100;
    private static final int LIMB = 1000000000;
    private static final int MOST_DIGITS = 1100;
    // What is kept of a sorting on the machine's stack.
    private static final int ROW = 0;
    private static final int COUNT = 1;
    private static final int SIZE = 2;
    private static final int ORDER = 3;
    private static final int COPY = 4;
    private static final int TAKEN = 5;
    private static final int PASSED = 6;
    private static final int OLD_END = 7;
    private static final int SORTING = 8;

    // What is kept of a conversion: what is told of it, and what is put for it: a sign (or 0), 0 and a letter (or 0),
    // zeros, and bytes of the body.
    private static final int SPEC_FLAGS = 0;
    private static final int SPEC_WIDTH = 1;
    private static final int SPEC_PRECISION = 2;
    private static final int SPEC_BREADTH = 3;
    private static final int SPEC_SIGN = 4;
    private static final int SPEC_LETTER = 5;
    private static final int SPEC_ZEROS = 6;
    private static final int SPEC_LENGTH = 7;
    private static final int SPEC = 8;

    private byte[] input = new byte[0];
    private int inputAt;
    /** The byte that ungetc put back; -1 if there is none. */
    private int held;
    private final byte[][] outs = new byte[2][256];
    private final int[] lengths = new int[2];
    private int seed;
    private final int[] exits = new int[MOST_EXITS];
    private int exitCount;
    // A printing or scanning: its format's next byte, the next argument, where bytes go to or come from (an address,
    // or below 0 a stream), how many there were.
    private long formatAt;
    private long argumentAt;
    private long textAt;
    private int stream;
    private int done;
    private final int[] spec = new int[SPEC];
    private final byte[] body = new byte[MOST_DIGITS];
    /** The address of what is put instead of the body; below 0 it is the body. */
    private long bodyFrom;
    /** The digits of a number, and how many of them stand before its point. */
    private final byte[] digits = new byte[MOST_DIGITS];
    private int digitCount;
    private int point;
    private final int[] limbs = new int[LIMBS];
    private int limbCount;

    private void beginRun(byte[] text) {
      input = text;
      inputAt = 0;
      held = -1;
      lengths[0] = 0;
      lengths[1] = 0;
      seed = 1;
      exitCount = 0;
    }

    private int writtenTo(int to) {
      return lengths[to - STDOUT];
    }

    private int byteWritten(int to, int i) {
      return i >= 0 && i < lengths[to - STDOUT] ? outs[to - STDOUT][i] & 255 : -1;
    }

    private long takeExit() {
      exitCount--;
      return exits[exitCount] & Machine.ADDRESSES;
    }

    // Streams.

    private long streamFunction(Machine m, int which, long a, long b, long c) {
      switch (which) {
        case PUTCHAR: return putTo(m, STDOUT, a);
        case PUTC: case FPUTC: return putTo(m, b, a);
        case PUTS: return putText(m, STDOUT, a, true);
        case FPUTS: return putText(m, b, a, false);
        case GETCHAR: return nextByte();
        case GETC: case FGETC: return getFrom(m, a);
        case FGETS: return getLine(m, a, (int) b, c);
        default: return putBack(m, (int) a, b);
      }
    }

    private boolean isStream(Machine m, long file, int first) {
      boolean right = file >= first && file <= STDERR;
      if (!right && m.outcome < 0) {
        m.outcome = 1;
      }
      return right;
    }

    private long putTo(Machine m, long file, long value) {
      if (isStream(m, file, STDOUT)) {
        write(m, (int) file, (int) value);
      }
      return value & 255;
    }

    private void write(Machine m, int to, int value) {
      int out = to - STDOUT;
      if (m.outcome >= 0) {
        return;
      }
      if (lengths[out] >= MOST_WRITTEN) {
        m.outcome = 11;
      } else {
        outs[out] = grown(outs[out], lengths[out]);
        outs[out][lengths[out]++] = (byte) value;
      }
    }

    private long putText(Machine m, long file, long text, boolean isLine) {
      if (isStream(m, file, STDOUT)) {
        int value = m.byteAt(text);
        for (long at = text; at <= text + Machine.MEMORY && value != 0 && m.outcome < 0; at++) {
          write(m, (int) file, value);
          value = m.byteAt(at + 1);
        }
        if (isLine) {
          write(m, (int) file, 10);
        }
      }
      return 0;
    }

    private int peekByte() {
      return held >= 0 ? held : inputAt < input.length ? input[inputAt] & 255 : -1;
    }

    private int nextByte() {
      int value = held;
      if (held >= 0) {
        held = -1;
      } else if (inputAt < input.length) {
        value = input[inputAt++] & 255;
      }
      return value;
    }

    private long getFrom(Machine m, long file) {
      return isStream(m, file, STDIN) && file == STDIN ? nextByte() : -1;
    }

    private long putBack(Machine m, int value, long file) {
      if (!isStream(m, file, STDIN) || file != STDIN || value == -1 || held >= 0) {
        return -1;
      }
      held = value & 255;
      return value;
    }

    private long getLine(Machine m, long to, int most, long file) {
      if (!isStream(m, file, STDIN) || file != STDIN || most < 2 || peekByte() < 0) {
        return 0;
      }
      long at = to;
      int last = 0;
      while (at < to + most - 1 && last != 10 && peekByte() >= 0 && m.outcome < 0) {
        last = nextByte();
        m.setByte(at++, last);
      }
      m.setByte(at, 0);
      return to;
    }

    // Texts in memory.

    private long textFunction(Machine m, int which, long a, long b, long c) {
      switch (which) {
        case STRLEN: return endOf(m, a) - a;
        case STRCPY: return copyText(m, a, a, b);
        case STRNCPY: return copyPadded(m, a, b, c);
        case STRCAT: return copyText(m, a, endOf(m, a), b);
        case STRNCAT: return appendSome(m, a, b, c);
        case STRCMP: return compareTexts(m, a, b, MOST_LONG, true);
        case STRNCMP: return compareTexts(m, a, b, c, true);
        case STRCHR: return findByte(m, a, (int) b & 255);
        case STRRCHR: return findLast(m, a, (int) b & 255);
        case STRSTR: return findText(m, a, b);
        case MEMCPY: return copyBytes(m, a, b, c, false);
        case MEMMOVE: return copyBytes(m, a, b, c, a > b);
        case MEMSET: return setBytes(m, a, (int) b, c);
        case MEMCMP: return compareTexts(m, a, b, c, false);
        default: return findAmong(m, a, (int) b & 255, c);
      }
    }

    /** Where the 0 of a text lies. */
    private long endOf(Machine m, long text) {
      long at = text;
      for (int n = 0; n <= Machine.MEMORY && m.byteAt(at) != 0; n++) {
        at++;
      }
      return at;
    }

    private long copyText(Machine m, long answer, long to, long from) {
      int value = 1;
      for (long i = 0; i <= Machine.MEMORY && value != 0 && m.outcome < 0; i++) {
        value = m.byteAt(from + i);
        if (m.outcome < 0) {
          m.setByte(to + i, value);
        }
      }
      return answer;
    }

    private long copyPadded(Machine m, long to, long from, long count) {
      int value = 1;
      for (long i = 0; i < count && m.outcome < 0; i++) {
        value = value == 0 ? 0 : m.byteAt(from + i);
        if (m.outcome < 0) {
          m.setByte(to + i, value);
        }
      }
      return to;
    }

    private long appendSome(Machine m, long to, long from, long count) {
      long end = endOf(m, to);
      for (long i = 0; i < count && m.outcome < 0; i++) {
        int value = m.byteAt(from + i);
        if (value == 0) {
          break;
        }
        m.setByte(end++, value);
      }
      if (m.outcome < 0) {
        m.setByte(end, 0);
      }
      return to;
    }

    private long compareTexts(Machine m, long a, long b, long count, boolean ends) {
      for (long i = 0; i < count && m.outcome < 0; i++) {
        int x = m.byteAt(a + i);
        int y = m.byteAt(b + i);
        if (x != y) {
          return x < y ? -1 : 1;
        }
        if (ends && x == 0) {
          break;
        }
      }
      return 0;
    }

    private long findByte(Machine m, long text, int value) {
      for (long at = text; at <= text + Machine.MEMORY && m.outcome < 0; at++) {
        int here = m.byteAt(at);
        if (here == value && m.outcome < 0) {
          return at;
        }
        if (here == 0) {
          break;
        }
      }
      return 0;
    }

    private long findLast(Machine m, long text, int value) {
      long found = 0;
      int here = 1;
      for (long at = text; at <= text + Machine.MEMORY && here != 0 && m.outcome < 0; at++) {
        here = m.byteAt(at);
        found = here == value ? at : found;
      }
      return found;
    }

    private long findText(Machine m, long text, long what) {
      long length = endOf(m, what) - what;
      for (long at = text; at <= text + Machine.MEMORY && m.outcome < 0; at++) {
        long same = 0;
        while (same < length && m.byteAt(at + same) == m.byteAt(what + same) && m.outcome < 0) {
          same++;
        }
        if (same == length) {
          return at;
        }
        if (m.outcome >= 0 || m.byteAt(at) == 0) {
          break;
        }
      }
      return 0;
    }

    private long copyBytes(Machine m, long to, long from, long count, boolean downwards) {
      for (long n = 0; n < count && m.outcome < 0; n++) {
        long i = downwards ? count - 1 - n : n;
        int value = m.byteAt(from + i);
        if (m.outcome < 0) {
          m.setByte(to + i, value);
        }
      }
      return to;
    }

    private long setBytes(Machine m, long to, int value, long count) {
      for (long i = 0; i < count && m.outcome < 0; i++) {
        m.setByte(to + i, value);
      }
      return to;
    }

    private long findAmong(Machine m, long from, int value, long count) {
      for (long i = 0; i < count && m.outcome < 0; i++) {
        if (m.byteAt(from + i) == value && m.outcome < 0) {
          return from + i;
        }
      }
      return 0;
    }

    // Letters and numbers.

    private static boolean isBlank(int c) {
      return c == ' ' || c >= 9 && c <= 13;
    }

    private static boolean isUpper(int c) {
      return c >= 'A' && c <= 'Z';
    }

    private static boolean isLower(int c) {
      return c >= 'a' && c <= 'z';
    }

    private static boolean isDigit(int c) {
      return c >= '0' && c <= '9';
    }

    private static boolean isHexadecimal(int c) {
      return isDigit(c) || c >= 'a' && c <= 'f' || c >= 'A' && c <= 'F';
    }

    private static long letterFunction(int which, int c) {
      if (which == TOUPPER) {
        return isLower(c) ? c - 32 : c;
      }
      if (which == TOLOWER) {
        return isUpper(c) ? c + 32 : c;
      }
      return isOfClass(which - ISDIGIT, c) ? 1 : 0;
    }

    private static boolean isOfClass(int which, int c) {
      boolean letter = isUpper(c) || isLower(c);
      switch (which) {
        case 0: return isDigit(c);
        case 1: return letter;
        case 2: return letter || isDigit(c);
        case 3: return isBlank(c);
        case 4: return isUpper(c);
        case 5: return isLower(c);
        case 6: return isHexadecimal(c);
        case 7: return c >= 32 && c <= 126;
        default: return c >= 33 && c <= 126 && !letter && !isDigit(c);
      }
    }

    private long otherFunction(Machine m, int which, long a, long b, long c) {
      switch (which) {
        case ABS: case LABS: return (int) Math.abs(a);
        case LLABS: return a < 0 ? -a : a;
        case ATOI: case ATOL: return (int) number(m, a, 10, 0);
        case ATOLL: return number(m, a, 10, 0);
        case STRTOL: return based(m, a, b, (int) c);
        case ABORT: m.trap(10); return 0;
        case ATEXIT: return atExit((int) a);
        case SRAND: seed = (int) a; return 0;
        case RAND: seed = seed * 1103515245 + 12345; return seed >> 16 & 32767;
        default: m.stray(); return 0;
      }
    }

    private long atExit(int address) {
      if (exitCount >= MOST_EXITS) {
        return 1;
      }
      exits[exitCount++] = address;
      return 0;
    }

    /** Blanks, a sign and digits of a base (10 without prefixes); where they end goes to an address that is not 0. */
    private long number(Machine m, long text, int base, long to) {
      long at = text;
      for (int n = 0; n <= Machine.MEMORY && isBlank(m.byteAt(at)); n++) {
        at++;
      }
      int sign = m.byteAt(at);
      at += sign == '-' || sign == '+' ? 1 : 0;
      int radix = base;
      boolean hexadecimal = (base == 0 || base == 16) && m.byteAt(at) == '0' && (m.byteAt(at + 1) | 32) == 'x'
          && Pieces.digitOf(m.byteAt(at + 2)) < 16;
      if (hexadecimal) {
        at += 2;
        radix = 16;
      } else if (base == 0) {
        radix = m.byteAt(at) == '0' ? 8 : 10;
      }
      long first = at;
      long value = 0;
      for (int n = 0; n <= Machine.MEMORY && Pieces.digitOf(m.byteAt(at)) < radix; n++) {
        value = value * radix + Pieces.digitOf(m.byteAt(at));
        at++;
      }
      if (to != 0 && m.outcome < 0 && m.reaches(to, 4)) {
        m.write((int) to, 4, at > first ? at : text);
      }
      return sign == '-' ? -value : value;
    }

    private long based(Machine m, long text, long to, int base) {
      if (base < 0 || base == 1 || base > 36) {
        if (to != 0 && m.reaches(to, 4)) {
          m.write((int) to, 4, text);
        }
        return 0;
      }
      return (int) number(m, text, base, to);
    }

    private double realFunction(Machine m, int which, double x) {
      switch (which) {
        case FABS: return x < 0 || x == 0 && 1.0 / x < 0 ? x * -1.0 : x;
        case SQRT: return root(m, x);
        case FLOOR: return rounded(x, -1);
        default: return rounded(x, 1);
      }
    }

    /** The whole number at or right below (-1) or above (1) a number. */
    private static double rounded(double x, int way) {
      if (x >= 4503599627370496.0 || x <= -4503599627370496.0 || x == 0) {
        return x;
      }
      double cut = (double) (long) x;
      if (way < 0 ? cut > x : cut < x) {
        cut = cut + way;
      }
      return cut == 0 && x < 0 ? -0.0 : cut;
    }

    private double root(Machine m, double x) {
      if (x < 0) {
        m.trap(6);
        return 0;
      }
      if (x == 0 || Machine.isInfinite(x)) {
        return x;
      }
      int exponent = (int) (Machine.bitsOf(x * (x < 0x1p-1022 ? 0x1p54 : 1.0)) >>> 52) - 1023 - (x < 0x1p-1022 ? 54 : 0);
      int even = exponent - (exponent & 1);
      // x is q times 2 to the power of even - 52, and q has 53 or 54 bits.
      double q = Machine.scaled(Machine.scaled(x, (52 - even) / 2), 52 - even - (52 - even) / 2);
      return Machine.scaled(rootOf((long) q), even / 2 - 26 - 27);
    }

    /** The root of q times 2 to the power of 54, rounded to 53 bits. */
    private static double rootOf(long q) {
      long rest = 0;
      long root = 0;
      for (int pair = 53; pair >= 0; pair--) {
        long next = pair >= 27 ? q >> 2 * (pair - 27) & 3 : 0;
        rest = rest << 2 | next;
        long trial = root << 2 | 1;
        root <<= 1;
        if (rest >= trial) {
          rest -= trial;
          root |= 1;
        }
      }
      boolean up = (root & 1) != 0 && (rest != 0 || (root & 2) != 0);
      return (double) ((root >> 1) + (up ? 1 : 0)) * 2.0;
    }

    // The heap.

    private static void setHeader(Machine m, long block, long size, int taken) {
      if (m.outcome < 0 && m.reaches(block, 8)) {
        m.write((int) block, 4, size);
        m.write((int) block + 4, 4, taken);
      }
    }

    private static long blockSize(long wanted) {
      return Math.max(8, (wanted + 7) / 8 * 8);
    }

    private long allocate(Machine m, long wanted) {
      long size = blockSize(wanted);
      for (long block = m.heapStart; block < m.heapEnds && m.outcome < 0; block += 8 + m.wordAt(block)) {
        long has = m.wordAt(block);
        if (m.wordAt(block + 4) != 1 && has >= size) {
          if (has >= size + 16) {
            setHeader(m, block + 8 + size, has - size - 8, 0);
            has = size;
          }
          setHeader(m, block, has, 1);
          return block + 8;
        }
      }
      long begin = m.heapEnds;
      long end = begin + 8 + size;
      if (wanted > LARGEST || end > m.stackEnd - STACK_ROOM || m.outcome >= 0) {
        return 0;
      }
      m.heapEnds = (int) end;
      setHeader(m, begin, size, 1);
      return begin + 8;
    }

    private long allocateClear(Machine m, long count, long each) {
      if (count != 0 && each > LARGEST / count) {
        return 0;
      }
      long bytes = allocate(m, count * each);
      for (long i = 0; i < count * each && bytes != 0 && m.outcome < 0; i++) {
        m.setByte(bytes + i, 0);
      }
      return bytes;
    }

    /** The taken block whose bytes begin at an address; a trap and -1 if there is none. */
    private long blockOf(Machine m, long bytes) {
      for (long block = m.heapStart; block < m.heapEnds && m.outcome < 0; block += 8 + m.wordAt(block)) {
        if (block + 8 == bytes && m.wordAt(block + 4) == 1) {
          return block;
        }
      }
      m.trap(1);
      return -1;
    }

    /** Frees a block; the answer is 0. */
    private long release(Machine m, long bytes) {
      long block = bytes == 0 ? -1 : blockOf(m, bytes);
      if (block < 0) {
        return 0;
      }
      long size = m.wordAt(block);
      setHeader(m, block, size, 0);
      long behind = block + 8 + size;
      if (behind < m.heapEnds && m.wordAt(behind + 4) != 1) {
        size += 8 + m.wordAt(behind);
        setHeader(m, block, size, 0);
      }
      long before = blockBefore(m, block);
      if (before >= 0 && m.wordAt(before + 4) != 1) {
        size += 8 + m.wordAt(before);
        setHeader(m, before, size, 0);
        block = before;
      }
      if (block + 8 + size == m.heapEnds && m.outcome < 0) {
        m.heapEnds = (int) block;
      }
      return 0;
    }

    private long blockBefore(Machine m, long block) {
      long before = -1;
      for (long at = m.heapStart; at < block && m.outcome < 0; at += 8 + m.wordAt(at)) {
        before = at;
      }
      return before;
    }

    private long reallocate(Machine m, long bytes, long wanted) {
      if (bytes == 0) {
        return allocate(m, wanted);
      }
      long block = blockOf(m, bytes);
      if (block < 0) {
        return 0;
      }
      if (wanted == 0) {
        return release(m, bytes);
      }
      long size = m.wordAt(block);
      if (size >= blockSize(wanted)) {
        return bytes;
      }
      long now = allocate(m, wanted);
      if (now != 0) {
        copyBytes(m, now, bytes, size, false);
        if (m.outcome < 0) {
          release(m, bytes);
        }
      }
      return now;
    }

    // Sorting: what is known of it lies on the machine's stack while the program compares.

    /** Takes the arguments of a sorting; true if there is something to compare. */
    private boolean beginsSorting(Machine m, int at) {
      long count = m.whole[at + COUNT];
      long size = m.whole[at + SIZE];
      if (count < 2 || size == 0) {
        m.top = at;
        m.pc += Machine.WORDS;
        return false;
      }
      long begin = m.stackEnd - (size + 7) / 8 * 8;
      if (begin < m.heapEnds) {
        m.trap(2);
        return false;
      }
      for (int i = COPY; i < SORTING; i++) {
        m.push(0);
      }
      m.whole[at + COPY] = m.stackEnd - size;
      m.whole[at + OLD_END] = m.stackEnd;
      m.stackEnd = (int) begin;
      m.lowestStack = Math.min(m.lowestStack, m.stackEnd);
      takeElement(m, at, 1);
      return true;
    }

    private void takeElement(Machine m, int at, long i) {
      long size = m.whole[at + SIZE];
      m.whole[at + TAKEN] = i;
      m.whole[at + PASSED] = i;
      copyBytes(m, m.whole[at + COPY], m.whole[at + ROW] + i * size, size, false);
    }

    /** Pushes the function that compares, the element before the one that is taken, and the copy of that. */
    private void pushComparison(Machine m) {
      int at = m.top - SORTING;
      if (at >= 0) {
        m.push(m.whole[at + ORDER]);
        m.checkCall(Types.COMPARING);
        m.push(m.whole[at + ROW] + (m.whole[at + PASSED] - 1) * m.whole[at + SIZE]);
        m.push(m.whole[at + COPY]);
      }
    }

    /**
     * The program has compared: above 0 if the element before comes behind the one that is taken. True if there is
     * more to compare.
     */
    private boolean goesOnSorting(Machine m, int order) {
      int at = m.top - SORTING;
      if (at < 0) {
        m.stray();
        return false;
      }
      long size = m.whole[at + SIZE];
      long row = m.whole[at + ROW];
      long passed = m.whole[at + PASSED];
      if (order > 0) {
        copyBytes(m, row + passed * size, row + (passed - 1) * size, size, false);
        passed--;
        m.whole[at + PASSED] = passed;
      }
      if (order <= 0 || passed == 0) {
        copyBytes(m, row + passed * size, m.whole[at + COPY], size, false);
        if (m.whole[at + TAKEN] + 1 >= m.whole[at + COUNT]) {
          m.stackEnd = (int) m.whole[at + OLD_END];
          m.top = at;
          return false;
        }
        takeElement(m, at, m.whole[at + TAKEN] + 1);
      }
      return true;
    }

    // Printing.

    private long print(Machine m, int which, long a, long b) {
      done = 0;
      textAt = which == SPRINTF ? a : -1;
      stream = which == FPRINTF ? (int) a : STDOUT;
      formatAt = which == PRINTF ? a : b;
      argumentAt = m.stackEnd;
      if (which == FPRINTF && !isStream(m, a, STDOUT)) {
        return 0;
      }
      int c = m.byteAt(formatAt);
      for (int n = 0; n < MANY && c != 0 && m.outcome < 0; n++) {
        formatAt++;
        if (c != '%') {
          put(m, c, 1);
        } else if (m.byteAt(formatAt) == '%') {
          formatAt++;
          put(m, c, 1);
        } else {
          readSpec(m);
          convert(m);
          putField(m);
        }
        c = m.byteAt(formatAt);
      }
      if (which == SPRINTF && m.outcome < 0) {
        m.setByte(textAt, 0);
      }
      return done;
    }

    /** Puts a byte so many times. */
    private void put(Machine m, int value, int count) {
      for (int i = 0; i < count && m.outcome < 0; i++) {
        done++;
        if (textAt >= 0) {
          m.setByte(textAt++, value);
        } else {
          write(m, stream, value);
        }
      }
    }

    /** Reads what is told of a conversion, up to its letter. */
    private void readSpec(Machine m) {
      int flags = 0;
      int flag = FLAGS.indexOf((char) m.byteAt(formatAt));
      for (int n = 0; n < MANY && flag >= 0; n++) {
        flags |= 1 << flag;
        formatAt++;
        flag = FLAGS.indexOf((char) m.byteAt(formatAt));
      }
      int width = readAmount(m);
      spec[SPEC_FLAGS] = width < 0 ? flags | MINUS_FLAG : flags;
      spec[SPEC_WIDTH] = Math.abs(width);
      spec[SPEC_PRECISION] = -1;
      if (m.byteAt(formatAt) == '.') {
        formatAt++;
        spec[SPEC_PRECISION] = Math.max(readAmount(m), -1);
      }
      readBreadth(m);
    }

    /** Reads digits, or a * and its argument; 0 if there are none. */
    private int readAmount(Machine m) {
      if (m.byteAt(formatAt) != '*') {
        return readDigits(m);
      }
      formatAt++;
      return (int) Math.max(-WIDEST, Math.min(argument(m, INT), WIDEST));
    }

    private int readDigits(Machine m) {
      int amount = 0;
      for (int n = 0; n < MANY && isDigit(m.byteAt(formatAt)); n++) {
        amount = Math.min(amount * 10 + m.byteAt(formatAt) - '0', WIDEST);
        formatAt++;
      }
      return amount;
    }

    private void readBreadth(Machine m) {
      int c = m.byteAt(formatAt);
      spec[SPEC_BREADTH] = PLAIN;
      if (c == 'h' || c == 'l') {
        formatAt++;
        boolean twice = m.byteAt(formatAt) == c;
        formatAt += twice ? 1 : 0;
        spec[SPEC_BREADTH] = c == 'h' ? twice ? AS_CHAR : AS_SHORT : twice ? AS_WIDE : AS_LONG;
      }
    }

    /** The next argument behind the ..., of a whole kind. */
    private long argument(Machine m, int kind) {
      int size = Machine.sizeOf(kind);
      if (m.outcome >= 0 || !m.reaches(argumentAt, size)) {
        return 0;
      }
      long value = Types.cut(kind, m.read((int) argumentAt, size));
      argumentAt += 8;
      return value;
    }

    private boolean flagged(int flag) {
      return (spec[SPEC_FLAGS] & flag) != 0;
    }

    /** Takes what the letter wants, and makes of it what is to be put. */
    private void convert(Machine m) {
      int letter = m.byteAt(formatAt);
      formatAt++;
      spec[SPEC_SIGN] = 0;
      spec[SPEC_LETTER] = 0;
      spec[SPEC_ZEROS] = 0;
      spec[SPEC_LENGTH] = 0;
      bodyFrom = -1;
      if (m.outcome >= 0) {
        return;
      }
      switch (letter) {
        case 'd': case 'i': signedNumber(m); return;
        case 'u': case 'o': case 'x': case 'X': unsignedNumber(m, letter); return;
        case 'c':
          body[0] = (byte) argument(m, INT);
          spec[SPEC_LENGTH] = 1;
          return;
        case 's': text(m, argument(m, UINT)); return;
        case 'p': pointer(argument(m, UINT)); return;
        case 'f': case 'F': case 'e': case 'E': floating(m, letter); return;
        default: m.trap(5);
      }
    }

    /** Puts what a conversion has made, with blanks before or behind it; a text is read as it is then. */
    private void putField(Machine m) {
      int sign = spec[SPEC_SIGN];
      int letter = spec[SPEC_LETTER];
      int zeros = spec[SPEC_ZEROS];
      int length = spec[SPEC_LENGTH];
      int blanks = spec[SPEC_WIDTH] - (sign == 0 ? 0 : 1) - (letter == 0 ? 0 : 2) - zeros - length;
      put(m, ' ', flagged(MINUS_FLAG) ? 0 : blanks);
      put(m, sign, sign == 0 ? 0 : 1);
      put(m, '0', letter == 0 ? 0 : 1);
      put(m, letter, letter == 0 ? 0 : 1);
      put(m, '0', zeros);
      for (int i = 0; i < length && m.outcome < 0; i++) {
        int value = bodyFrom < 0 ? body[i] : m.byteAt(bodyFrom + i);
        put(m, value, 1);
      }
      put(m, ' ', flagged(MINUS_FLAG) ? blanks : 0);
    }

    /** The flag 0 puts zeros before the body. */
    private void fillWithZeros() {
      if ((spec[SPEC_FLAGS] & (ZERO_FLAG | MINUS_FLAG)) == ZERO_FLAG) {
        int before = (spec[SPEC_SIGN] == 0 ? 0 : 1) + (spec[SPEC_LETTER] == 0 ? 0 : 2);
        spec[SPEC_ZEROS] = Math.max(spec[SPEC_ZEROS], spec[SPEC_WIDTH] - before - spec[SPEC_LENGTH]);
      }
    }

    private void setSign(boolean negative) {
      spec[SPEC_SIGN] = negative ? '-' : flagged(PLUS_FLAG) ? '+' : flagged(BLANK_FLAG) ? ' ' : 0;
    }

    private void signedNumber(Machine m) {
      int breadth = spec[SPEC_BREADTH];
      long value = argument(m, breadth == AS_WIDE ? LLONG : INT);
      value = breadth == AS_CHAR ? (byte) value : breadth == AS_SHORT ? (short) value : value;
      setSign(value < 0);
      setWhole(value < 0 ? -value : value, 10, false);
      if (spec[SPEC_PRECISION] < 0) {
        fillWithZeros();
      }
    }

    private void unsignedNumber(Machine m, int letter) {
      int breadth = spec[SPEC_BREADTH];
      long value = argument(m, breadth == AS_WIDE ? ULLONG : UINT);
      value &= breadth == AS_CHAR ? 255 : breadth == AS_SHORT ? 65535 : -1L;
      setWhole(value, letter == 'u' ? 10 : letter == 'o' ? 8 : 16, letter == 'X');
      if (flagged(HASH_FLAG) && letter == 'o' && spec[SPEC_ZEROS] == 0
          && (spec[SPEC_LENGTH] == 0 || body[0] != '0')) {
        spec[SPEC_ZEROS] = 1;
      } else if (flagged(HASH_FLAG) && (letter | 32) == 'x' && value != 0) {
        spec[SPEC_LETTER] = letter;
      }
      if (spec[SPEC_PRECISION] < 0) {
        fillWithZeros();
      }
    }

    /** The body is the digits of a number without sign, at least as many as the precision, none for 0 if that is 0. */
    private void setWhole(long value, int base, boolean capital) {
      int end = 64;
      int at = end;
      long rest = value;
      while (rest != 0 && at > 0) {
        long quotient = Types.quotient(rest, base);
        int digit = (int) (rest - quotient * base);
        rest = quotient;
        body[--at] = (byte) (digit < 10 ? '0' + digit : (capital ? 'A' : 'a') + digit - 10);
      }
      if (value == 0 && spec[SPEC_PRECISION] != 0) {
        body[--at] = '0';
      }
      System.arraycopy(body, at, body, 0, end - at);
      spec[SPEC_LENGTH] = end - at;
      spec[SPEC_ZEROS] = Math.max(0, spec[SPEC_PRECISION] - (end - at));
    }

    private void pointer(long value) {
      spec[SPEC_PRECISION] = 8;
      setWhole(value, 16, false);
      spec[SPEC_LETTER] = 'x';
      fillWithZeros();
    }

    private void text(Machine m, long from) {
      int most = spec[SPEC_PRECISION] < 0 ? Machine.MEMORY + 1 : spec[SPEC_PRECISION];
      int length = 0;
      while (length < most && m.outcome < 0 && m.byteAt(from + length) != 0) {
        length++;
      }
      spec[SPEC_LENGTH] = length;
      bodyFrom = from;
    }

    private void floating(Machine m, int letter) {
      if (!m.reaches(argumentAt, 8)) {
        return;
      }
      long bits = m.read((int) argumentAt, 8);
      int decimals = spec[SPEC_PRECISION] < 0 ? 6 : spec[SPEC_PRECISION];
      argumentAt += 8;
      setSign(bits < 0);
      if (Machine.isNoNumber(bits)) {
        m.trap(6);
      } else if (decimals > 15) {
        m.trap(5);
      } else if ((bits & MOST_LONG) == 0x7ff0000000000000L) {
        body[0] = 'i';
        body[1] = 'n';
        body[2] = 'f';
        spec[SPEC_LENGTH] = 3;
      } else {
        setDecimals(bits);
        if ((letter | 32) == 'f') {
          setFixed(decimals);
        } else {
          setScientific(decimals, letter);
        }
        fillWithZeros();
      }
    }

    /** Puts some of the digits behind the body; where there is none it is 0. */
    private int putDigits(int from, int to, int at) {
      int n = at;
      for (int i = from; i < to; i++) {
        body[n++] = i >= 0 && i < digitCount ? digits[i] : (byte) '0';
      }
      return n;
    }

    private void setFixed(int decimals) {
      roundTo(point + decimals);
      int n = putDigits(point > 0 ? 0 : -1, Math.max(point, 0), 0);
      if (decimals > 0 || flagged(HASH_FLAG)) {
        body[n++] = '.';
      }
      spec[SPEC_LENGTH] = putDigits(point, point + decimals, n);
    }

    private void setScientific(int decimals, int letter) {
      boolean zero = digitCount == 0;
      roundTo(decimals + 1);
      int exponent = zero ? 0 : point - 1;
      int size = Math.abs(exponent);
      int n = putDigits(0, 1, 0);
      if (decimals > 0 || flagged(HASH_FLAG)) {
        body[n++] = '.';
      }
      n = putDigits(1, decimals + 1, n);
      body[n++] = (byte) letter;
      body[n++] = (byte) (exponent < 0 ? '-' : '+');
      if (size > 99) {
        body[n++] = (byte) ('0' + size / 100);
      }
      body[n++] = (byte) ('0' + size / 10 % 10);
      body[n++] = (byte) ('0' + size % 10);
      spec[SPEC_LENGTH] = n;
    }

    /** The exact digits of a number that is not infinite, without its sign; 0 has none. */
    private void setDecimals(long bits) {
      int exponent = (int) (bits >>> 52) & 2047;
      long fraction = bits & 0xfffffffffffffL;
      fraction |= exponent > 0 ? 0x10000000000000L : 0;
      exponent = Math.max(exponent, 1) - 1075;
      int twos = fraction == 0 ? 0 : Math.min(Long.bitCount((fraction & -fraction) - 1), Math.max(-exponent, 0));
      fraction >>= twos;
      exponent += twos;
      limbs[0] = (int) (fraction % LIMB);
      limbs[1] = (int) (fraction / LIMB);
      limbCount = 2;
      int factor = exponent > 0 ? 2 : 5;
      int rest = Math.abs(exponent);
      int step = factor == 2 ? 29 : 12;
      for (int n = 0; n < MOST_DIGITS && rest > 0; n++) {
        int times = Math.min(rest, step);
        int power = 1;
        for (int i = 0; i < times; i++) {
          power *= factor;
        }
        multiply(power);
        rest -= times;
      }
      limbsToDigits();
      point = digitCount + Math.min(exponent, 0);
    }

    private void multiply(int by) {
      long carry = 0;
      for (int i = 0; i < limbCount; i++) {
        long product = (long) limbs[i] * by + carry;
        limbs[i] = (int) (product % LIMB);
        carry = product / LIMB;
      }
      if (carry > 0 && limbCount < LIMBS) {
        limbs[limbCount++] = (int) carry;
      }
    }

    private void limbsToDigits() {
      digitCount = 0;
      for (int i = limbCount - 1; i >= 0; i--) {
        int power = LIMB / 10;
        for (int n = 0; n < 9 && power > 0; n++) {
          int digit = limbs[i] / power % 10;
          if ((digitCount > 0 || digit > 0) && digitCount < MOST_DIGITS) {
            digits[digitCount++] = (byte) ('0' + digit);
          }
          power /= 10;
        }
      }
    }

    /** Rounds to so many of the digits, ties to an even last one. */
    private void roundTo(int count) {
      if (count >= digitCount) {
        return;
      }
      boolean up = false;
      if (count >= 0) {
        boolean more = false;
        for (int i = count + 1; i < digitCount; i++) {
          more |= digits[i] != '0';
        }
        boolean odd = count > 0 && (digits[count - 1] & 1) != 0;
        up = digits[count] > '5' || digits[count] == '5' && (more || odd);
      }
      digitCount = Math.max(count, 0);
      int i = digitCount - 1;
      while (up && i >= 0 && digits[i] == '9') {
        digits[i--] = '0';
      }
      if (up && i >= 0) {
        digits[i]++;
      } else if (up) {
        System.arraycopy(digits, 0, digits, 1, digitCount);
        digits[0] = '1';
        digitCount++;
        point++;
      }
    }

    // Scanning.

    private int peek(Machine m) {
      if (textAt < 0) {
        return peekByte();
      }
      int value = m.byteAt(textAt);
      return value == 0 ? -1 : value;
    }

    private void skip() {
      if (textAt < 0) {
        nextByte();
      } else {
        textAt++;
      }
    }

    private void skipBlanks(Machine m) {
      for (int n = 0; n < MANY && isBlank(peek(m)); n++) {
        skip();
      }
    }

    /** How many were stored; -1 if the input ended before. */
    private long scan(Machine m, int which, long a, long b) {
      done = 0;
      textAt = which == SSCANF ? a : -1;
      formatAt = which == SSCANF ? b : a;
      argumentAt = m.stackEnd;
      boolean goesOn = true;
      boolean ended = false;
      int c = m.byteAt(formatAt);
      for (int n = 0; n < MANY && c != 0 && goesOn && m.outcome < 0; n++) {
        formatAt++;
        if (isBlank(c)) {
          skipBlanks(m);
        } else if (c != '%') {
          ended = peek(m) < 0;
          goesOn = peek(m) == c;
          if (goesOn) {
            skip();
          }
        } else {
          int result = scanConversion(m);
          ended = result < 0;
          goesOn = result > 0;
        }
        c = m.byteAt(formatAt);
      }
      return !goesOn && ended && done == 0 ? -1 : done;
    }

    /** 1 if the conversion got what it wants, 0 if not, -1 if the input had ended where it begins. */
    private int scanConversion(Machine m) {
      boolean stores = m.byteAt(formatAt) != '*';
      formatAt += stores ? 0 : 1;
      int width = readDigits(m);
      readBreadth(m);
      int letter = m.byteAt(formatAt);
      formatAt++;
      if (letter != 'd' && letter != 'u' && letter != 'x' && letter != 'c' && letter != 's') {
        m.trap(5);
        return 0;
      }
      if (letter != 'c') {
        skipBlanks(m);
      }
      if (peek(m) < 0) {
        return -1;
      }
      long to = stores ? argument(m, UINT) : 0;
      spec[SPEC_WIDTH] = width > 0 ? width : letter == 'c' ? 1 : WIDEST;
      if (m.outcome >= 0) {
        return 0;
      }
      boolean got = letter == 'c' || letter == 's' ? scanText(m, letter, stores, to)
          : scanNumber(m, letter == 'x' ? 16 : 10, stores, to);
      done += got && stores ? 1 : 0;
      return got ? 1 : 0;
    }

    private boolean scanText(Machine m, int letter, boolean stores, long to) {
      int count = 0;
      int width = spec[SPEC_WIDTH];
      int c = peek(m);
      while (count < width && c >= 0 && (letter == 'c' || !isBlank(c)) && m.outcome < 0) {
        if (stores) {
          m.setByte(to + count, c);
        }
        count++;
        skip();
        c = count < width ? peek(m) : -1;
      }
      if (letter == 's' && stores && m.outcome < 0) {
        m.setByte(to + count, 0);
      }
      return letter == 's' || count == width;
    }

    private boolean scanNumber(Machine m, int base, boolean stores, long to) {
      int left = spec[SPEC_WIDTH];
      int sign = peek(m);
      if (sign == '-' || sign == '+') {
        skip();
        left--;
      }
      long value = 0;
      int count = 0;
      for (int n = 0; n < MANY && left > 0; n++) {
        int c = peek(m);
        if (Pieces.digitOf(c) < base) {
          value = value * base + Pieces.digitOf(c);
        } else if (!(base == 16 && count == 1 && value == 0 && (c | 32) == 'x')) {
          break;
        }
        count++;
        left--;
        skip();
      }
      if (count > 0 && stores) {
        int breadth = spec[SPEC_BREADTH];
        int size = breadth == AS_CHAR ? 1 : breadth == AS_SHORT ? 2 : breadth == AS_WIDE ? 8 : 4;
        if (m.outcome < 0 && m.reaches(to, size)) {
          m.write((int) to, size, sign == '-' ? -value : value);
        }
      }
      return count > 0;
    }
  }
}
