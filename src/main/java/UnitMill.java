import java.util.Arrays;

/**
 * Units of a language of modules: a compiler that gives them keys, a loader that joins them,
 * a machine with processes and a clock, and a disk with files.
 *
 * <p>All rows are made once, in the constructors, so that no call makes an object.
 */
public final class UnitMill {
  private static final int REFUSED_NUMBER = 1;
  private static final int REFUSED_NONE = 2;
  private static final int REFUSED_ROOM = 3;
  private static final int REFUSED_STATE = 4;

  private static final int WRONG_WORD = 1;
  private static final int WRONG_MEANING = 2;
  private static final int WRONG_TWICE = 3;
  private static final int WRONG_FIT = 4;
  private static final int WRONG_CONSTANT = 5;
  private static final int WRONG_DEFINITION = 6;
  private static final int WRONG_MANY = 7;
  private static final int WRONG_UNITS = 8;

  private static final int MOST_TAPE = 4000;
  private static final int MOST_WORDS = MOST_TAPE + 2;
  private static final int MOST_NAME = 20;
  private static final int MOST_STRING = 40;
  private static final int MOST_INTEGER = 32767;
  private static final int LEAST_INTEGER = -32768;
  private static final int MOST_UNITS = 16;
  private static final int MOST_IMPORTS = 8;
  private static final int MOST_TOP_NAMES = 40;
  private static final int MOST_LOCAL_NAMES = 20;
  private static final int MOST_GROUP_NAMES = 8;
  private static final int MOST_TOP_SIZE = 1000;
  private static final int MOST_LOCAL_SIZE = 300;
  private static final int MOST_ARRAY = 500;
  private static final int MOST_NESTED = 20;

  // A TYPE is a number: its SIMPLE in the lowest three bits, an ARRAY's number above them.
  private static final int NO_TYPE = 0;
  private static final int INTEGER_TYPE = 1;
  private static final int CHAR_TYPE = 2;
  private static final int BOOLEAN_TYPE = 3;
  private static final int PROCESS_TYPE = 4;
  private static final int SIMPLE_BITS = 7;
  private static final int ARRAY_SHIFT = 3;

  // What a call wants in one place: a TYPE, perhaps with marks, or one of three that no unit can tell.
  private static final int TYPE_BITS = 4095;
  private static final int BY_VAR = 4096;
  private static final int AT_TOP = 8192;
  private static final int WANT_STRING = 5;
  private static final int WANT_PROCEDURE = 6;
  private static final int WANT_ORDINAL = 7;

  private static final int NO_UNIT = 0;
  private static final int IMPLEMENTATION_UNIT = 1;
  private static final int MODULE_UNIT = 2;
  private static final int DEFINITION_UNIT = 3;

  private final Words words;
  private final Loader loader;
  private final Parser parser;
  private final Disk disk;
  private final Machine machine;
  private boolean compiled;
  private int status;

  public UnitMill() {
    words = new Words();
    loader = new Loader();
    disk = new Disk();
    Code code = new Code();
    parser = new Parser(words, code, loader);
    machine = new Machine(code, loader, disk);
  }

  public int feed(long a, long b, long c, long d, long e) {
    if (words.length + 40 > MOST_TAPE) {
      return refuse(REFUSED_ROOM);
    }
    words.addEight(a);
    words.addEight(b);
    words.addEight(c);
    words.addEight(d);
    words.addEight(e);
    return accept(words.length);
  }

  public int compile(int n) {
    if (n < 0 || n > words.length) {
      return refuse(REFUSED_NUMBER);
    }
    words.scan(n);
    parser.heading();
    parser.parts();
    parser.ending();
    parser.keep();
    words.length = 0;
    compiled = true;
    return accept(words.wrong);
  }

  public int wrong(int what) {
    if (what < 0 || what > 3) {
      return refuse(REFUSED_NUMBER);
    }
    if (!compiled) {
      return refuse(REFUSED_NONE);
    }
    switch (what) {
      case 0:
        return accept(words.wrong);
      case 1:
        return accept(words.wrongPlace);
      case 2:
        return accept(words.wrong == 0 ? parser.number : -1);
      default:
        return accept(loader.unitCount);
    }
  }

  public int unit(int k, int what) {
    Unit told = loader.unitAt(k);
    if (told == null) {
      return refuse(REFUSED_NONE);
    }
    switch (what) {
      case 0:
        return accept(told.key);
      case 1:
        return accept(told.sort);
      case 2:
        return accept(told.importCount);
      case 3:
        return accept(told.ownKey);
      case 4:
        return accept(told.sort == NO_UNIT ? told.definitionSize : told.size);
      default:
        return refuse(REFUSED_NUMBER);
    }
  }

  public int link(int k) {
    Unit module = loader.unitAt(k);
    if (module == null || module.sort != MODULE_UNIT) {
      return refuse(REFUSED_NONE);
    }
    machine.begun = false;
    return accept(loader.join(k));
  }

  public int linked(int i) {
    if (loader.linkedCount == 0) {
      return refuse(REFUSED_STATE);
    }
    if (i < 0 || i >= loader.linkedCount) {
      return refuse(REFUSED_NONE);
    }
    return accept(loader.order[i]);
  }

  public int start() {
    if (loader.linkedCount == 0) {
      return refuse(REFUSED_STATE);
    }
    machine.begin();
    return accept(loader.wholeSize());
  }

  public int run(int n) {
    if (n < 0 || n > 20000) {
      return refuse(REFUSED_NUMBER);
    }
    if (!machine.begun) {
      return refuse(REFUSED_STATE);
    }
    return accept(machine.go(n));
  }

  public int clock(int n) {
    if (n < 0 || n > 1000) {
      return refuse(REFUSED_NUMBER);
    }
    machine.clockNumber = n;
    return accept(n);
  }

  public int give(int v) {
    if (!fits(v)) {
      return refuse(REFUSED_NUMBER);
    }
    if (!machine.addNumber(v)) {
      return refuse(REFUSED_ROOM);
    }
    return accept(machine.inCount);
  }

  public int seen(int what) {
    switch (what) {
      case 6:
        return machine.begun ? machine.inCount - machine.inNext : machine.inCount;
      case 7:
        return disk.openCount();
      default:
        if (what < 0 || what > 7) {
          return -1;
        }
        return machine.begun ? machine.told(what) : 0;
    }
  }

  public int out(int i) {
    if (!machine.begun || i < 0 || i >= machine.outCount) {
      return -1;
    }
    return machine.outBytes[i] & 255;
  }

  public int word(int k, int i) {
    if (!machine.begun) {
      return refuse(REFUSED_STATE);
    }
    if (i < 0 || i >= loader.linkedSize(k)) {
      return refuse(REFUSED_NONE);
    }
    return accept(machine.load(k * MOST_TOP_SIZE + i));
  }

  public int file(int f, int what) {
    if (!disk.has(f)) {
      return refuse(REFUSED_NONE);
    }
    if (what == 0) {
      return accept(disk.lengths[f]);
    }
    if (what == 1) {
      return accept(disk.sectorCount(f));
    }
    if (what == 2) {
      return accept(disk.nameLengths[f]);
    }
    if (what < 0 || what - 3 >= disk.sectorCount(f)) {
      return refuse(REFUSED_NUMBER);
    }
    return accept(disk.sectorAt(f, what - 3));
  }

  public int read(int f, int i) {
    if (!disk.has(f) || i < 0 || i >= disk.lengths[f]) {
      return refuse(REFUSED_NONE);
    }
    return accept(disk.byteAt(f, i));
  }

  public int name(int f, int i) {
    if (!disk.has(f) || i < 0 || i >= disk.nameLengths[f]) {
      return refuse(REFUSED_NONE);
    }
    return accept(disk.letterAt(f, i));
  }

  public long sector(int i) {
    return disk.eightBytes(i);
  }

  public int fresh() {
    machine.begun = false;
    return accept(disk.wipe());
  }

  public int status() {
    return status;
  }

  private int refuse(int why) {
    status = why;
    return -1;
  }

  private int accept(int answer) {
    status = 0;
    return answer;
  }

  private static boolean fits(int value) {
    return value >= LEAST_INTEGER && value <= MOST_INTEGER;
  }

  /**
   * The TAPE, the words that it is cut into, and where the reader of units stands in them.
   *
   * <p>A failure moves the reader to a last word STOP that stands nowhere in the grammar: all that
   * is open then comes to its end by itself, and only the first failure is kept.
   */
  private static final class Words {
    static final int STOP = 0;
    static final int LACK = 1;
    static final int BAD = 2;
    static final int NAME = 3;
    static final int NUMBER = 4;
    static final int STRING = 5;

    // In the order of SIGNS.
    static final int PLUS = 6;
    static final int MINUS = 7;
    static final int TIMES = 8;
    static final int EQUAL = 9;
    static final int UNEQUAL = 10;
    static final int LESS = 11;
    static final int MORE = 12;
    static final int OPEN = 13;
    static final int CLOSE = 14;
    static final int OPEN_INDEX = 15;
    static final int CLOSE_INDEX = 16;
    static final int COMMA = 17;
    static final int SEMICOLON = 18;
    static final int COLON = 19;
    static final int POINT = 20;
    static final int AT_MOST = 21;
    static final int AT_LEAST = 22;
    static final int BECOMES = 23;

    // In the order of KEYWORDS.
    static final int ARRAY = 24;
    static final int BEGIN = 25;
    static final int BY = 26;
    static final int CONST = 27;
    static final int DEFINITION = 28;
    static final int DO = 29;
    static final int ELSE = 30;
    static final int ELSIF = 31;
    static final int END = 32;
    static final int EXIT = 33;
    static final int FOR = 34;
    static final int FROM = 35;
    static final int IF = 36;
    static final int IMPLEMENTATION = 37;
    static final int IMPORT = 38;
    static final int LOOP = 39;
    static final int MODULE = 40;
    static final int OF = 41;
    static final int PROCEDURE = 42;
    static final int REPEAT = 43;
    static final int RETURN = 44;
    static final int THEN = 45;
    static final int TO = 46;
    static final int UNTIL = 47;
    static final int VAR = 48;
    static final int WHILE = 49;
    static final int INTEGER = 50;
    static final int CHAR = 51;
    static final int BOOLEAN = 52;
    static final int PROCESS = 53;
    static final int TRUE = 54;
    static final int FALSE = 55;
    static final int DIV = 56;
    static final int MOD = 57;
    static final int AND = 58;
    static final int OR = 59;
    static final int NOT = 60;
    static final int KEYWORD_COUNT = 37;

    private static final String SIGNS = "+-*=#<>()[],;:.";
    private static final String KEYWORDS =
        "ARRAY BEGIN BY CONST DEFINITION DO ELSE ELSIF END EXIT FOR FROM IF IMPLEMENTATION IMPORT LOOP MODULE OF PROCEDURE REPEAT RETURN THEN TO UNTIL VAR WHILE INTEGER CHAR BOOLEAN PROCESS TRUE FALSE DIV MOD AND OR NOT ";
    // In the order of the standard operations of Code.
    private static final String STANDARD =
        "ORD CHR ABS ODD LENGTH INC DEC HALT WRITEINT WRITECHAR WRITESTRING WRITELN READINT NEWPROCESS TRANSFER IOTRANSFER OPENFILE NEWFILE READBYTE WRITEBYTE SETPOS CLOSEFILE DELETEFILE ";

    // 512 calls feed some 20,000 bytes: these hold every NAME that they can have.
    private static final int MOST_LETTERS = 24576;
    private static final int MOST_NAMES = 8192;
    private static final int SLOTS = 16384;

    private final byte[] tape = new byte[MOST_TAPE];
    private int length;
    private final int[] kinds = new int[MOST_WORDS];
    private final int[] places = new int[MOST_WORDS];
    private final int[] values = new int[MOST_WORDS];
    private int last;
    private int now;
    private int wrong;
    private int wrongPlace;

    private final byte[] letters = new byte[MOST_LETTERS];
    private final int[] nameStarts = new int[MOST_NAMES + 1];
    private int nameCount;
    private final int[] slots = new int[SLOTS];

    Words() {
      knowAll(KEYWORDS);
      knowAll(STANDARD);
    }

    private void knowAll(String spaced) {
      int size = 0;
      for (int i = 0; i < spaced.length(); i++) {
        char letter = spaced.charAt(i);
        if (letter != ' ') {
          tape[size] = (byte) letter;
          size++;
        } else {
          numberOfName(0, size);
          size = 0;
        }
      }
    }

    void addEight(long bytes) {
      for (int shift = 56; shift >= 0 && length < MOST_TAPE; shift -= 8) {
        tape[length] = (byte) (bytes >> shift);
        length++;
      }
    }

    int letter(int at) {
      return at >= 0 && at < MOST_TAPE ? tape[at] & 255 : 0;
    }

    int kind() {
      return kinds[now];
    }

    int place() {
      return places[now];
    }

    int value() {
      return values[now];
    }

    boolean failed() {
      return wrong != 0;
    }

    void fail(int what, int at) {
      if (wrong == 0) {
        wrong = what;
        wrongPlace = at;
      }
      now = last;
    }

    void next() {
      if (now < last) {
        now++;
      }
    }

    boolean take(int kind) {
      boolean here = kinds[now] == kind;
      if (here) {
        next();
      }
      return here;
    }

    void expect(int kind) {
      if (kinds[now] == kind) {
        now++;
      } else {
        fail(WRONG_WORD, places[now]);
      }
    }

    int takeName() {
      int taken = values[now];
      if (kinds[now] != NAME) {
        fail(WRONG_WORD, places[now]);
        return -1;
      }
      now++;
      return taken;
    }

    boolean beginsExpression() {
      switch (kinds[now]) {
        case NAME:
        case NUMBER:
        case STRING:
        case PLUS:
        case MINUS:
        case OPEN:
        case TRUE:
        case FALSE:
        case NOT:
          return true;
        default:
          return false;
      }
    }

    void scan(int n) {
      last = 0;
      now = 0;
      wrong = 0;
      wrongPlace = 0;
      int at = skip(0, n);
      for (int i = 0; i < MOST_TAPE && at < n; i++) {
        int end = scanWord(at, n);
        if (end < 0) {
          record(BAD, at, 0);
          record(STOP, n, 0);
          last--;
          return;
        }
        at = skip(end, n);
      }
      record(LACK, n, 0);
      record(STOP, n, 0);
      last--;
    }

    private void record(int kind, int at, int value) {
      if (last < MOST_WORDS) {
        kinds[last] = kind;
        places[last] = at;
        values[last] = value;
        last++;
      }
    }

    private int skip(int from, int n) {
      int open = 0;
      int at = from;
      while (at < n) {
        int here = letter(at);
        int behind = at + 1 < n ? letter(at + 1) : 0;
        if (here == '(' && behind == '*') {
          open++;
          at += 2;
        } else if (open > 0 && here == '*' && behind == ')') {
          open--;
          at += 2;
        } else if (open > 0 || here == ' ' || here == 10) {
          at++;
        } else {
          break;
        }
      }
      return at;
    }

    /** Where the word that begins here ends; -1, if there is none. */
    private int scanWord(int at, int n) {
      int here = letter(at);
      if (isLetter(here)) {
        return scanName(at, n);
      }
      if (isDigit(here)) {
        return scanNumber(at, n);
      }
      if (here == '"') {
        return scanString(at, n);
      }
      int sign = SIGNS.indexOf((char) here);
      if (sign < 0) {
        return -1;
      }
      int pair = at + 1 < n && letter(at + 1) == '=' ? pairOf(PLUS + sign) : 0;
      record(pair > 0 ? pair : PLUS + sign, at, 0);
      return pair > 0 ? at + 2 : at + 1;
    }

    private static int pairOf(int sign) {
      switch (sign) {
        case LESS:
          return AT_MOST;
        case MORE:
          return AT_LEAST;
        case COLON:
          return BECOMES;
        default:
          return 0;
      }
    }

    private int scanName(int at, int n) {
      int end = at + 1;
      while (end < n && (isLetter(letter(end)) || isDigit(letter(end)))) {
        end++;
      }
      int number = end - at > MOST_NAME ? -1 : numberOfName(at, end - at);
      if (number < 0) {
        return -1;
      }
      record(number < KEYWORD_COUNT ? ARRAY + number : NAME, at, number);
      return end;
    }

    private int scanNumber(int at, int n) {
      int end = at;
      int value = 0;
      while (end < n && isDigit(letter(end))) {
        value = Math.min(value * 10 + letter(end) - '0', MOST_INTEGER + 1);
        end++;
      }
      if (value > MOST_INTEGER || (letter(at) == '0' && end > at + 1)) {
        return -1;
      }
      record(NUMBER, at, value);
      return end;
    }

    private int scanString(int at, int n) {
      int end = at + 1;
      while (end < n && letter(end) != '"') {
        if (letter(end) < 32 || letter(end) > 126) {
          return -1;
        }
        end++;
      }
      if (end >= n || end - at - 1 > MOST_STRING) {
        return -1;
      }
      record(STRING, at, end - at - 1);
      return end + 1;
    }

    private static boolean isLetter(int here) {
      return (here >= 'a' && here <= 'z') || (here >= 'A' && here <= 'Z');
    }

    private static boolean isDigit(int here) {
      return here >= '0' && here <= '9';
    }

    /** The same number for the same letters, always; -1, if there is no room for one NAME more. */
    private int numberOfName(int from, int size) {
      int slot = 0;
      for (int i = 0; i < size; i++) {
        slot = slot * 31 + letter(from + i);
      }
      slot = (slot ^ (slot >>> 15)) & (SLOTS - 1);
      for (int turn = 0; turn < SLOTS; turn++) {
        int known = slots[slot] - 1;
        if (known < 0) {
          return addName(slot, from, size);
        }
        if (isName(known, from, size)) {
          return known;
        }
        slot = (slot + 1) & (SLOTS - 1);
      }
      return -1;
    }

    private int addName(int slot, int from, int size) {
      int start = nameStarts[nameCount];
      if (nameCount >= MOST_NAMES || start + size > MOST_LETTERS) {
        return -1;
      }
      for (int i = 0; i < size; i++) {
        letters[start + i] = (byte) letter(from + i);
      }
      nameCount++;
      nameStarts[nameCount] = start + size;
      slots[slot] = nameCount;
      return nameCount - 1;
    }

    private boolean isName(int known, int from, int size) {
      int start = nameStarts[known];
      if (nameStarts[known + 1] - start != size) {
        return false;
      }
      for (int i = 0; i < size; i++) {
        if ((letters[start + i] & 255) != letter(from + i)) {
          return false;
        }
      }
      return true;
    }
  }

  /** What a NAME means. */
  private static final class Symbol {
    static final int CONSTANT = 1;
    static final int VARIABLE = 2;
    static final int PROCEDURE = 3;

    static final int OWN = 0;
    static final int IMPORTED = 1;
    static final int LOCAL = 2;
    static final int POINTER = 3;
    static final int STANDARD = 4;

    private int name;
    private int place;
    private int kind;
    private int reach;
    private int type;
    /** A constant's value, a variable's address, a procedure's number or operation. */
    private int value;
    private int least;
    private int most;
    private final int[] wants = new int[MOST_GROUP_NAMES];
    /** Told by the DEFINITION, and not yet once more by its IMPLEMENTATION. */
    private boolean awaited;

    void clear(int newName, int newPlace) {
      name = newName;
      place = newPlace;
      kind = 0;
      reach = OWN;
      type = NO_TYPE;
      value = 0;
      least = 0;
      most = 0;
      awaited = false;
    }

    void copy(Symbol other) {
      kind = other.kind;
      reach = other.reach;
      type = other.type;
      value = other.value;
      least = other.least;
      most = other.most;
      System.arraycopy(other.wants, 0, wants, 0, MOST_GROUP_NAMES);
    }

    int wanted(int i) {
      return i >= 0 && i < most && i < MOST_GROUP_NAMES ? wants[i] : NO_TYPE;
    }

    void addWanted(int wanted) {
      if (most < MOST_GROUP_NAMES) {
        wants[most] = wanted;
        most++;
        least = most;
      }
    }

    boolean hasHeadOf(Symbol other) {
      if (type != other.type || most != other.most) {
        return false;
      }
      for (int i = 0; i < most; i++) {
        if (wanted(i) != other.wanted(i)) {
          return false;
        }
      }
      return true;
    }

    boolean isArray() {
      return type > SIMPLE_BITS;
    }

    boolean isAtTop() {
      return reach == OWN || reach == IMPORTED;
    }

    boolean isFunction() {
      return kind == PROCEDURE && type != NO_TYPE;
    }

    boolean isPlainProcedure() {
      return kind == PROCEDURE && type == NO_TYPE;
    }
  }

  /** NAMES that were told together. A NAME is there as soon as it is told, but means something only once it is shown. */
  private static final class Scope {
    private final Symbol[] symbols;
    private int count;
    private int shown;

    Scope(int most) {
      symbols = new Symbol[most];
      for (int i = 0; i < most; i++) {
        symbols[i] = new Symbol();
      }
    }

    void clear() {
      count = 0;
      shown = 0;
    }

    void show() {
      shown = count;
    }

    Symbol at(int i) {
      return i >= 0 && i < count ? symbols[i] : null;
    }

    Symbol add(int name, int place) {
      if (count >= symbols.length) {
        return null;
      }
      Symbol added = symbols[count];
      count++;
      added.clear(name, place);
      return added;
    }

    /** The one of this name among the first ones: as many as are shown, or as there are. */
    Symbol find(int name, int among) {
      for (int i = 0; i < among && i < symbols.length; i++) {
        if (symbols[i].name == name) {
          return symbols[i];
        }
      }
      return null;
    }

    boolean awaitsAny() {
      for (int i = 0; i < count; i++) {
        if (symbols[i].awaited) {
          return true;
        }
      }
      return false;
    }
  }

  /** What is kept of a NAME of units: its DEFINITION, and the IMPLEMENTATION or MODULE. */
  private static final class Unit {
    private int name;

    private int key;
    private Scope definition = new Scope(MOST_TOP_NAMES);
    private int definitionSize;
    private final int[] definitionImports = new int[MOST_IMPORTS];
    private final int[] definitionKeys = new int[MOST_IMPORTS];
    private int definitionImportCount;

    private int sort;
    private int ownKey;
    private int size;
    private final int[] imports = new int[MOST_IMPORTS];
    private final int[] importKeys = new int[MOST_IMPORTS];
    private int importCount;
    private int body;
    private final int[] entries = new int[MOST_TOP_NAMES];

    void clearDraft() {
      definition.clear();
      importCount = 0;
      size = 0;
      ownKey = 0;
    }

    /** False, if there is no room for one more. */
    boolean addImport(int number, int importKey) {
      for (int i = 0; i < importCount; i++) {
        if (imports[i] == number) {
          return true;
        }
      }
      if (importCount >= MOST_IMPORTS) {
        return false;
      }
      imports[importCount] = number;
      importKeys[importCount] = importKey;
      importCount++;
      return true;
    }

    /** The two change their rows of NAMES, for nobody else holds those. */
    void takeDefinition(Unit draft, int newKey) {
      key = newKey;
      Scope spare = definition;
      definition = draft.definition;
      draft.definition = spare;
      definitionSize = draft.size;
      definitionImportCount = draft.importCount;
      System.arraycopy(draft.imports, 0, definitionImports, 0, MOST_IMPORTS);
      System.arraycopy(draft.importKeys, 0, definitionKeys, 0, MOST_IMPORTS);
    }

    void takeOther(Unit draft, int newSort) {
      sort = newSort;
      ownKey = draft.ownKey;
      size = draft.size;
      importCount = draft.importCount;
      System.arraycopy(draft.imports, 0, imports, 0, MOST_IMPORTS);
      System.arraycopy(draft.importKeys, 0, importKeys, 0, MOST_IMPORTS);
      body = draft.body;
      System.arraycopy(draft.entries, 0, entries, 0, MOST_TOP_NAMES);
    }
  }

  /**
   * The cells of all units that were ever compiled: an operation in the lowest 8 bits, its number above.
   *
   * <p>Cells are never changed once their unit is kept, so what is LINKED stays as it was compiled.
   * The operations of signs are the numbers that Words has for them.
   */
  private static final class Code {
    static final int FIRST_STANDARD = 64;
    static final int ORD = 64;
    static final int CHR = 65;
    static final int ABS = 66;
    static final int ODD = 67;
    static final int LENGTH = 68;
    static final int INC = 69;
    static final int DEC = 70;
    static final int HALT = 71;
    static final int WRITEINT = 72;
    static final int WRITECHAR = 73;
    static final int WRITESTRING = 74;
    static final int WRITELN = 75;
    static final int READINT = 76;
    static final int NEWPROCESS = 77;
    static final int TRANSFER = 78;
    static final int IOTRANSFER = 79;
    static final int OPENFILE = 80;
    static final int NEWFILE = 81;
    static final int READBYTE = 82;
    static final int WRITEBYTE = 83;
    static final int SETPOS = 84;
    static final int CLOSEFILE = 85;
    static final int DELETEFILE = 86;
    static final int STANDARD_COUNT = 23;

    static final int STEP = 90;
    static final int CONSTANT = 91;
    static final int ADDRESS = 92;
    static final int LOCAL = 93;
    static final int POINTER = 94;
    static final int INDEX = 95;
    static final int LOAD = 96;
    static final int STORE = 97;
    static final int DROP = 98;
    static final int NEGATE = 99;
    static final int JUMP = 100;
    static final int JUMP_FALSE = 101;
    static final int KEEP_FALSE = 102;
    static final int KEEP_TRUE = 103;
    static final int FOR_FIRST = 104;
    static final int FOR_UP = 105;
    static final int FOR_DOWN = 106;
    static final int FOR_NEXT = 107;
    static final int CALL = 108;
    static final int ENTER = 109;
    static final int LEAVE = 110;
    static final int LEAVE_WITH = 111;
    static final int NO_RESULT = 112;
    static final int END_BODY = 113;

    // No INTEGER is as high as this.
    static final int TRAP = 65536;

    // A byte of the TAPE makes at most one and a half, and 512 calls feed some 20,000 bytes.
    private static final int MOST_CELLS = 40960;

    private final int[] cells = new int[MOST_CELLS];
    private int top;

    int emit(int operation, int number) {
      int at = top;
      if (top < MOST_CELLS) {
        cells[top] = (number << 8) | operation;
        top++;
      }
      return at;
    }

    boolean isFull() {
      return top >= MOST_CELLS;
    }

    void cut(int mark) {
      top = mark;
    }

    int cell(int at) {
      return at >= 0 && at < top ? cells[at] : HALT;
    }

    /** Jumps that wait for the same end are a chain: each has the one before it as its number, the first -1. */
    void endChain(int chain) {
      int at = chain;
      for (int i = 0; i < MOST_CELLS && at >= 0 && at < top; i++) {
        int before = cells[at] >> 8;
        cells[at] = (top << 8) | (cells[at] & 255);
        at = before;
      }
    }

    /** What a sign makes of two numbers, or TRAP and the TRAP's number. */
    static int calculate(int sign, int a, int b) {
      switch (sign) {
        case Words.EQUAL:
          return a == b ? 1 : 0;
        case Words.UNEQUAL:
          return a != b ? 1 : 0;
        case Words.LESS:
          return a < b ? 1 : 0;
        case Words.AT_MOST:
          return a <= b ? 1 : 0;
        case Words.MORE:
          return a > b ? 1 : 0;
        case Words.AT_LEAST:
          return a >= b ? 1 : 0;
        case Words.AND:
          return a & b;
        case Words.OR:
          return a | b;
        case Words.DIV:
          return b > 0 ? Math.floorDiv(a, b) : TRAP + 2;
        case Words.MOD:
          return b > 0 ? Math.floorMod(a, b) : TRAP + 2;
        default:
          break;
      }
      int answer = sign == Words.PLUS ? a + b : sign == Words.MINUS ? a - b : a * b;
      return answer < LEAST_INTEGER || answer > MOST_INTEGER ? TRAP + 1 : answer;
    }

    /** What ORD, CHR, ABS or ODD makes of a number, or TRAP and the TRAP's number. */
    static int calculateFunction(int function, int value) {
      switch (function) {
        case CHR:
          return value < 0 || value > 255 ? TRAP + 4 : value;
        case ABS:
          return value == LEAST_INTEGER ? TRAP + 1 : Math.abs(value);
        case ODD:
          return value & 1;
        default:
          return value;
      }
    }
  }

  /**
   * Reads EXPRESSIONS, PLACES and calls.
   *
   * <p>What is known of an EXPRESSION is one number: its SIMPLE in the lowest bits, the marks CONST and
   * TRAPS, and the value of a CONST above them. A depth is how many things of those that may stand
   * twenty in one another are around.
   */
  private static final class Expressions {
    private static final int CONST = 8;
    private static final int TRAPS = 16;

    // For each standard NAME: its result, how many ARGUMENTS at least and at most, and what these are.
    private static final int[] STANDARD_HEADS = {
      INTEGER_TYPE, 1, 1, WANT_ORDINAL, 0, 0,
      CHAR_TYPE, 1, 1, INTEGER_TYPE, 0, 0,
      INTEGER_TYPE, 1, 1, INTEGER_TYPE, 0, 0,
      BOOLEAN_TYPE, 1, 1, INTEGER_TYPE, 0, 0,
      INTEGER_TYPE, 1, 1, INTEGER_TYPE, 0, 0,
      NO_TYPE, 1, 2, BY_VAR + INTEGER_TYPE, INTEGER_TYPE, 0,
      NO_TYPE, 1, 2, BY_VAR + INTEGER_TYPE, INTEGER_TYPE, 0,
      NO_TYPE, 0, 0, 0, 0, 0,
      NO_TYPE, 1, 1, INTEGER_TYPE, 0, 0,
      NO_TYPE, 1, 1, CHAR_TYPE, 0, 0,
      NO_TYPE, 1, 1, WANT_STRING, 0, 0,
      NO_TYPE, 0, 0, 0, 0, 0,
      NO_TYPE, 1, 1, BY_VAR + INTEGER_TYPE, 0, 0,
      NO_TYPE, 3, 3, WANT_PROCEDURE, INTEGER_TYPE, BY_VAR + PROCESS_TYPE,
      NO_TYPE, 2, 2, BY_VAR + PROCESS_TYPE, PROCESS_TYPE, 0,
      NO_TYPE, 2, 2, BY_VAR + PROCESS_TYPE, BY_VAR + AT_TOP + PROCESS_TYPE, 0,
      NO_TYPE, 2, 2, WANT_STRING, BY_VAR + INTEGER_TYPE, 0,
      NO_TYPE, 2, 2, WANT_STRING, BY_VAR + INTEGER_TYPE, 0,
      NO_TYPE, 2, 2, INTEGER_TYPE, BY_VAR + INTEGER_TYPE, 0,
      NO_TYPE, 2, 2, INTEGER_TYPE, INTEGER_TYPE, 0,
      NO_TYPE, 2, 2, INTEGER_TYPE, INTEGER_TYPE, 0,
      NO_TYPE, 1, 1, INTEGER_TYPE, 0, 0,
      NO_TYPE, 1, 1, WANT_STRING, 0, 0,
    };
    private static final int HEAD_LENGTH = 6;

    private final Words words;
    private final Code code;
    private final Scope local = new Scope(MOST_LOCAL_NAMES);
    private final Symbol[] standard = new Symbol[Code.STANDARD_COUNT];
    private Scope top;
    private boolean inside;

    Expressions(Words words, Code code) {
      this.words = words;
      this.code = code;
      for (int i = 0; i < Code.STANDARD_COUNT; i++) {
        Symbol made = new Symbol();
        made.clear(Words.KEYWORD_COUNT + i, 0);
        made.kind = Symbol.PROCEDURE;
        made.reach = Symbol.STANDARD;
        made.value = Code.FIRST_STANDARD + i;
        int row = i * HEAD_LENGTH;
        made.type = STANDARD_HEADS[row];
        made.least = STANDARD_HEADS[row + 1];
        made.most = STANDARD_HEADS[row + 2];
        System.arraycopy(STANDARD_HEADS, row + 3, made.wants, 0, HEAD_LENGTH - 3);
        standard[i] = made;
      }
    }

    Symbol meaning(int name) {
      Symbol found = inside ? local.find(name, local.shown) : null;
      if (found == null && top != null) {
        found = top.find(name, top.shown);
      }
      int index = name - Words.KEYWORD_COUNT;
      if (found == null && index >= 0 && index < Code.STANDARD_COUNT) {
        found = standard[index];
      }
      return found;
    }

    /** A CONSTANT of this SIMPLE (NO_TYPE: of any): its EXPRESSION's number. It leaves no cells behind. */
    int constant(int wanted, int depth) {
      int at = words.place();
      int mark = code.top;
      int known = expression(depth);
      code.cut(mark);
      boolean rightType = wanted == NO_TYPE || (known & SIMPLE_BITS) == wanted;
      if (!rightType || (known & CONST) == 0) {
        words.fail(WRONG_FIT, at);
      } else if ((known & TRAPS) != 0) {
        words.fail(WRONG_CONSTANT, at);
      }
      return known;
    }

    void wantedExpression(int wanted, int depth) {
      int at = words.place();
      int known = expression(depth);
      if ((known & SIMPLE_BITS) != wanted) {
        words.fail(WRONG_FIT, at);
      }
    }

    private int expression(int depth) {
      if (depth >= MOST_NESTED) {
        words.fail(WRONG_WORD, words.place());
        return NO_TYPE;
      }
      int left = sum(depth + 1);
      int sign = words.kind();
      int at = words.place();
      if (!isRelation(sign)) {
        return left;
      }
      words.next();
      int right = sum(depth + 1);
      code.emit(sign, 0);
      int type = left & SIMPLE_BITS;
      boolean ordered = type == INTEGER_TYPE || type == CHAR_TYPE;
      boolean equalOnly = type == BOOLEAN_TYPE && (sign == Words.EQUAL || sign == Words.UNEQUAL);
      if (type != (right & SIMPLE_BITS) || !(ordered || equalOnly)) {
        words.fail(WRONG_FIT, at);
      }
      return joined(sign, left, right, BOOLEAN_TYPE);
    }

    private static boolean isRelation(int sign) {
      switch (sign) {
        case Words.EQUAL:
        case Words.UNEQUAL:
        case Words.LESS:
        case Words.AT_MOST:
        case Words.MORE:
        case Words.AT_LEAST:
          return true;
        default:
          return false;
      }
    }

    private int sum(int depth) {
      int sign = words.kind();
      int at = words.place();
      boolean signed = sign == Words.PLUS || sign == Words.MINUS;
      if (signed) {
        words.next();
      }
      int left = term(depth);
      if (signed && (left & SIMPLE_BITS) != INTEGER_TYPE) {
        words.fail(WRONG_FIT, at);
      }
      if (sign == Words.MINUS) {
        code.emit(Code.NEGATE, 0);
        left = joined(sign, INTEGER_TYPE | CONST, left, INTEGER_TYPE);
      }
      for (int i = 0; i < MOST_WORDS; i++) {
        sign = words.kind();
        at = words.place();
        if (sign != Words.PLUS && sign != Words.MINUS && sign != Words.OR) {
          break;
        }
        words.next();
        int jump = sign == Words.OR ? code.emit(Code.KEEP_TRUE, -1) : -1;
        int right = term(depth);
        settle(sign, at, left, right, jump);
        left = joined(sign, left, right, sign == Words.OR ? BOOLEAN_TYPE : INTEGER_TYPE);
      }
      return left;
    }

    private int term(int depth) {
      int left = factor(depth);
      for (int i = 0; i < MOST_WORDS; i++) {
        int sign = words.kind();
        int at = words.place();
        if (sign != Words.TIMES && sign != Words.DIV && sign != Words.MOD && sign != Words.AND) {
          break;
        }
        words.next();
        int jump = sign == Words.AND ? code.emit(Code.KEEP_FALSE, -1) : -1;
        int right = factor(depth);
        settle(sign, at, left, right, jump);
        left = joined(sign, left, right, sign == Words.AND ? BOOLEAN_TYPE : INTEGER_TYPE);
      }
      return left;
    }

    private void settle(int sign, int at, int left, int right, int jump) {
      boolean logical = sign == Words.AND || sign == Words.OR;
      int type = logical ? BOOLEAN_TYPE : INTEGER_TYPE;
      if ((left & SIMPLE_BITS) != type || (right & SIMPLE_BITS) != type) {
        words.fail(WRONG_FIT, at);
      }
      if (logical) {
        code.endChain(jump);
      } else {
        code.emit(sign, 0);
      }
    }

    /** What is known behind a sign: a CONST, if both are. */
    private static int joined(int sign, int left, int right, int type) {
      if ((left & right & CONST) == 0) {
        return type;
      }
      int answer = Code.calculate(sign, left >> 8, right >> 8);
      if (answer >= Code.TRAP) {
        return type | CONST | TRAPS;
      }
      return type | CONST | ((left | right) & TRAPS) | (answer << 8);
    }

    private int factor(int depth) {
      int at = words.place();
      int kind = words.kind();
      int value = words.value();
      if (kind == Words.NAME) {
        return named(depth);
      }
      words.next();
      switch (kind) {
        case Words.NUMBER:
          return constantCell(INTEGER_TYPE, value);
        case Words.STRING:
          if (value != 1) {
            words.fail(WRONG_FIT, at);
          }
          return constantCell(CHAR_TYPE, words.letter(at + 1));
        case Words.TRUE:
          return constantCell(BOOLEAN_TYPE, 1);
        case Words.FALSE:
          return constantCell(BOOLEAN_TYPE, 0);
        case Words.OPEN:
          int within = expression(depth);
          words.expect(Words.CLOSE);
          return within;
        case Words.NOT:
          return negated(at, depth);
        default:
          words.fail(WRONG_WORD, at);
          return NO_TYPE;
      }
    }

    private int constantCell(int type, int value) {
      code.emit(Code.CONSTANT, value);
      return type | CONST | (value << 8);
    }

    private int negated(int at, int depth) {
      if (depth >= MOST_NESTED) {
        words.fail(WRONG_WORD, words.place());
        return NO_TYPE;
      }
      int known = factor(depth + 1);
      if ((known & SIMPLE_BITS) != BOOLEAN_TYPE) {
        words.fail(WRONG_FIT, at);
      }
      code.emit(Words.NOT, 0);
      return joined(Words.EQUAL, known, BOOLEAN_TYPE | CONST, BOOLEAN_TYPE);
    }

    private int named(int depth) {
      int at = words.place();
      Symbol symbol = meaning(words.takeName());
      if (symbol == null) {
        words.fail(WRONG_MEANING, at);
        return NO_TYPE;
      }
      int behind = words.kind();
      if (behind == Words.OPEN) {
        return functionCall(symbol, at, depth);
      }
      if (symbol.kind == Symbol.CONSTANT && behind != Words.OPEN_INDEX) {
        return constantCell(symbol.type, symbol.value);
      }
      if (symbol.kind != Symbol.VARIABLE || symbol.isArray() != (behind == Words.OPEN_INDEX)) {
        words.fail(WRONG_FIT, at);
        return NO_TYPE;
      }
      int type = address(symbol, depth);
      code.emit(Code.LOAD, 0);
      return type;
    }

    private int functionCall(Symbol symbol, int at, int depth) {
      if (!symbol.isFunction()) {
        words.fail(WRONG_FIT, at);
        return NO_TYPE;
      }
      int known = call(symbol, at, depth);
      boolean foldable = symbol.reach == Symbol.STANDARD && symbol.value != Code.LENGTH;
      if (!foldable || (known & CONST) == 0) {
        return symbol.type;
      }
      int answer = Code.calculateFunction(symbol.value, known >> 8);
      if (answer >= Code.TRAP) {
        return symbol.type | CONST | TRAPS;
      }
      return symbol.type | CONST | (known & TRAPS) | (answer << 8);
    }

    void addressCell(Symbol symbol) {
      switch (symbol.reach) {
        case Symbol.LOCAL:
          code.emit(Code.LOCAL, symbol.value);
          break;
        case Symbol.POINTER:
          code.emit(Code.POINTER, symbol.value);
          break;
        default:
          code.emit(Code.ADDRESS, symbol.value);
          break;
      }
    }

    /** The PLACE whose NAME was read: its TYPE. */
    private int address(Symbol symbol, int depth) {
      addressCell(symbol);
      if (!words.take(Words.OPEN_INDEX)) {
        return symbol.type;
      }
      int at = words.place();
      int known = expression(depth);
      if ((known & SIMPLE_BITS) != INTEGER_TYPE) {
        words.fail(WRONG_FIT, at);
      }
      words.expect(Words.CLOSE_INDEX);
      code.emit(Code.INDEX, symbol.type >> ARRAY_SHIFT);
      return symbol.type & SIMPLE_BITS;
    }

    /** The call of what was named at this place: what argument() answered for its first ARGUMENT. */
    private int call(Symbol called, int at, int depth) {
      int given = 0;
      int first = 0;
      if (words.take(Words.OPEN)) {
        boolean more = words.kind() != Words.CLOSE;
        for (int i = 0; i < MOST_WORDS && more; i++) {
          if (!words.beginsExpression()) {
            words.fail(WRONG_WORD, words.place());
          } else if (given >= called.most) {
            words.fail(WRONG_FIT, at);
          }
          int told = argument(called.wanted(given), depth);
          first = given == 0 ? told : first;
          given++;
          more = words.take(Words.COMMA);
        }
        words.expect(Words.CLOSE);
      }
      if (given < called.least) {
        words.fail(WRONG_FIT, at);
      }
      if (called.wanted(0) == WANT_STRING) {
        stringCells(called.value, first);
      } else {
        callCells(called, given, first);
      }
      return first;
    }

    /** Of a STRING the number of its word, of a procedure its own, of an EXPRESSION what is known of it. */
    private int argument(int wanted, int depth) {
      int at = words.place();
      int word = words.now;
      // The grammar makes each ARGUMENT an EXPRESSION, so one that may be a STRING or a PLACE alone is a level, too.
      if (depth >= MOST_NESTED) {
        words.fail(WRONG_WORD, at);
        return word;
      }
      if (wanted == WANT_STRING) {
        if (!words.take(Words.STRING)) {
          words.fail(WRONG_FIT, at);
        }
        return word;
      }
      if (wanted == WANT_PROCEDURE || (wanted & BY_VAR) != 0) {
        return namedArgument(wanted, depth + 1);
      }
      int known = expression(depth);
      int type = known & SIMPLE_BITS;
      boolean ordinal = wanted == WANT_ORDINAL && (type == CHAR_TYPE || type == BOOLEAN_TYPE);
      if (type != wanted && !ordinal) {
        words.fail(WRONG_FIT, at);
      }
      return known;
    }

    private int namedArgument(int wanted, int depth) {
      int at = words.place();
      if (words.kind() != Words.NAME) {
        words.fail(WRONG_FIT, at);
        return 0;
      }
      Symbol symbol = meaning(words.takeName());
      if (symbol == null) {
        words.fail(WRONG_MEANING, at);
        return 0;
      }
      if (wanted == WANT_PROCEDURE) {
        if (!symbol.isPlainProcedure() || symbol.most > 0 || symbol.reach == Symbol.STANDARD) {
          words.fail(WRONG_FIT, at);
        }
        return symbol.value;
      }
      boolean indexed = words.kind() == Words.OPEN_INDEX;
      boolean reached = (wanted & AT_TOP) == 0 || symbol.isAtTop();
      if (symbol.kind != Symbol.VARIABLE || !reached || (indexed && !symbol.isArray())) {
        words.fail(WRONG_FIT, at);
      } else if (address(symbol, depth) != (wanted & TYPE_BITS)) {
        words.fail(WRONG_FIT, at);
      }
      return 0;
    }

    private void callCells(Symbol called, int given, int first) {
      boolean told = called.reach != Symbol.STANDARD;
      if (told && called.isFunction()) {
        code.emit(Code.STEP, 0);
      }
      if (!told && given < called.most) {
        code.emit(Code.CONSTANT, 1);
      }
      if (told) {
        code.emit(Code.CALL, called.value);
      } else {
        code.emit(called.value, called.wanted(0) == WANT_PROCEDURE ? first : 0);
      }
    }

    /** The bytes stand behind the operation, for the TAPE will be empty when it is done. */
    private void stringCells(int operation, int word) {
      if (word < 0 || word >= MOST_WORDS) {
        return;
      }
      int size = words.values[word];
      int start = words.places[word] + 1;
      code.emit(operation, size);
      for (int i = 0; i < size && i < MOST_STRING; i++) {
        code.emit(words.letter(start + i), 0);
      }
    }
  }

  /** Reads units and STATEMENTS. The unit that is read is a draft till it is kept. */
  private static final class Parser {
    private final Words words;
    private final Code code;
    private final Loader loader;
    private final Expressions expressions;
    private final Unit draft = new Unit();
    private final Symbol head = new Symbol();

    private int mark;
    private int sort;
    private int unitName;
    private int number;
    private int procedureCount;
    private int localSize;

    private int leaving;
    private int result;
    private boolean inLoop;
    private int exits;
    private int forsInLoop;

    Parser(Words words, Code code, Loader loader) {
      this.words = words;
      this.code = code;
      this.loader = loader;
      expressions = new Expressions(words, code);
    }

    void heading() {
      mark = code.top;
      procedureCount = 0;
      draft.clearDraft();
      expressions.top = draft.definition;
      expressions.inside = false;
      sort = MODULE_UNIT;
      if (words.take(Words.DEFINITION)) {
        sort = DEFINITION_UNIT;
      } else if (words.take(Words.IMPLEMENTATION)) {
        sort = IMPLEMENTATION_UNIT;
      }
      words.expect(Words.MODULE);
      int at = words.place();
      unitName = words.takeName();
      number = loader.find(unitName);
      Unit known = loader.unitAt(number);
      if (known == null) {
        number = loader.unitCount;
      }
      if (number >= MOST_UNITS) {
        words.fail(WRONG_UNITS, at);
      } else if (sort == IMPLEMENTATION_UNIT && (known == null || known.key == 0)) {
        words.fail(WRONG_DEFINITION, at);
      }
      words.expect(Words.SEMICOLON);
      if (sort == IMPLEMENTATION_UNIT && known != null) {
        takeOwnDefinition(known);
      }
      for (int i = 0; i < MOST_WORDS && words.take(Words.FROM); i++) {
        importFrom();
      }
    }

    private void takeOwnDefinition(Unit known) {
      draft.ownKey = known.key;
      draft.size = known.definitionSize;
      for (int i = 0; i < known.definition.count; i++) {
        Symbol told = known.definition.at(i);
        if (told != null && told.reach == Symbol.OWN) {
          Symbol added = draft.definition.add(told.name, 0);
          if (added != null) {
            added.copy(told);
            added.awaited = told.kind == Symbol.PROCEDURE;
            procedureCount += added.awaited ? 1 : 0;
          }
        }
      }
      draft.definition.show();
    }

    private void importFrom() {
      int at = words.place();
      int name = words.takeName();
      int from = loader.find(name);
      Unit source = loader.unitAt(from);
      if (source == null || source.key == 0 || name == unitName) {
        words.fail(WRONG_MEANING, at);
        return;
      }
      if (!draft.addImport(from, source.key)) {
        words.fail(WRONG_MANY, at);
      }
      words.expect(Words.IMPORT);
      boolean more = true;
      for (int i = 0; i < MOST_WORDS && more; i++) {
        importName(source);
        more = words.take(Words.COMMA);
      }
      draft.definition.show();
      words.expect(Words.SEMICOLON);
    }

    private void importName(Unit source) {
      int at = words.place();
      int name = words.takeName();
      Symbol told = source.definition.find(name, source.definition.shown);
      if (told == null || told.reach != Symbol.OWN) {
        words.fail(WRONG_MEANING, at);
        return;
      }
      Symbol added = tell(draft.definition, name, at, MOST_TOP_NAMES);
      if (added != null) {
        added.copy(told);
        added.reach = Symbol.IMPORTED;
      }
    }

    /** Null, if the NAME can't be told. */
    private Symbol tell(Scope scope, int name, int at, int most) {
      if (words.failed()) {
        return null;
      }
      if (scope.find(name, scope.count) != null) {
        words.fail(WRONG_TWICE, at);
        return null;
      }
      if (scope.count >= most) {
        words.fail(WRONG_MANY, at);
        return null;
      }
      return scope.add(name, at);
    }

    void parts() {
      for (int i = 0; i < MOST_WORDS; i++) {
        if (words.take(Words.CONST)) {
          constants();
        } else if (words.take(Words.VAR)) {
          draft.size = variables(draft.definition, draft.size);
        } else if (words.take(Words.PROCEDURE)) {
          Symbol told = readHead();
          words.expect(Words.SEMICOLON);
          for (int j = 0; j < MOST_WORDS && sort != DEFINITION_UNIT && words.take(Words.VAR); j++) {
            localSize = variables(expressions.local, localSize);
          }
          if (sort != DEFINITION_UNIT && told != null) {
            block(told);
          }
          expressions.inside = false;
        } else {
          break;
        }
      }
    }

    private void constants() {
      for (int i = 0; i < MOST_WORDS && words.kind() == Words.NAME; i++) {
        int at = words.place();
        Symbol added = tell(draft.definition, words.takeName(), at, MOST_TOP_NAMES);
        words.expect(Words.EQUAL);
        int known = expressions.constant(NO_TYPE, 0);
        words.expect(Words.SEMICOLON);
        if (added != null) {
          added.kind = Symbol.CONSTANT;
          added.type = known & SIMPLE_BITS;
          added.value = known >> 8;
        }
        draft.definition.show();
      }
    }

    private void names(Scope scope, int most) {
      boolean more = true;
      for (int i = 0; i < MOST_WORDS && more; i++) {
        int at = words.place();
        tell(scope, words.takeName(), at, most);
        more = words.take(Words.COMMA);
      }
    }

    /** How many words there are with these variables. */
    private int variables(Scope scope, int sizeBefore) {
      boolean atTop = scope == draft.definition;
      int mostSize = atTop ? MOST_TOP_SIZE : MOST_LOCAL_SIZE;
      int size = sizeBefore;
      for (int i = 0; i < MOST_WORDS && words.kind() == Words.NAME; i++) {
        int from = scope.count;
        names(scope, atTop ? MOST_TOP_NAMES : MOST_LOCAL_NAMES);
        words.expect(Words.COLON);
        int type = readType();
        for (int j = from; j < scope.count; j++) {
          Symbol told = scope.symbols[j];
          told.kind = Symbol.VARIABLE;
          told.reach = atTop ? Symbol.OWN : Symbol.LOCAL;
          told.type = type;
          told.value = atTop ? number * MOST_TOP_SIZE + size : size;
          size += Math.max(1, type >> ARRAY_SHIFT);
          if (size > mostSize) {
            words.fail(WRONG_MANY, told.place);
          }
        }
        scope.show();
        words.expect(Words.SEMICOLON);
      }
      return size;
    }

    private int readType() {
      if (!words.take(Words.ARRAY)) {
        return readSimple();
      }
      int at = words.place();
      int size = expressions.constant(INTEGER_TYPE, 0) >> 8;
      if (size < 1 || size > MOST_ARRAY) {
        words.fail(WRONG_CONSTANT, at);
        return NO_TYPE;
      }
      words.expect(Words.OF);
      return (size << ARRAY_SHIFT) | readSimple();
    }

    private int readSimple() {
      int kind = words.kind();
      if (kind < Words.INTEGER || kind > Words.PROCESS) {
        words.fail(WRONG_WORD, words.place());
        return NO_TYPE;
      }
      words.next();
      return kind - Words.INTEGER + INTEGER_TYPE;
    }

    /** What the HEAD tells; null, if anything was WRONG. */
    private Symbol readHead() {
      Scope local = expressions.local;
      Scope top = draft.definition;
      int at = words.place();
      int name = words.takeName();
      Symbol known = top.find(name, top.count);
      if (known != null && !known.awaited) {
        words.fail(WRONG_TWICE, at);
      } else if (known == null && top.count >= MOST_TOP_NAMES) {
        words.fail(WRONG_MANY, at);
      }
      head.clear(name, at);
      head.kind = Symbol.PROCEDURE;
      local.clear();
      expressions.inside = true;
      if (words.take(Words.OPEN)) {
        boolean more = words.kind() != Words.CLOSE;
        for (int i = 0; i < MOST_WORDS && more; i++) {
          boolean byVar = words.take(Words.VAR);
          int from = local.count;
          names(local, MOST_GROUP_NAMES);
          words.expect(Words.COLON);
          group(from, byVar, byVar ? readType() : readSimple());
          more = words.take(Words.SEMICOLON);
        }
        words.expect(Words.CLOSE);
      }
      if (words.take(Words.COLON)) {
        head.type = readSimple();
      }
      localSize = head.most;
      return words.failed() ? null : tellHead(known, at);
    }

    private void group(int from, boolean byVar, int type) {
      Scope local = expressions.local;
      for (int i = from; i < local.count; i++) {
        Symbol told = local.symbols[i];
        told.kind = Symbol.VARIABLE;
        told.reach = byVar ? Symbol.POINTER : Symbol.LOCAL;
        told.type = type;
        told.value = i;
        head.addWanted(byVar ? type | BY_VAR : type);
      }
      local.show();
    }

    private Symbol tellHead(Symbol known, int at) {
      if (known != null) {
        if (!known.hasHeadOf(head)) {
          words.fail(WRONG_DEFINITION, at);
        }
        known.awaited = false;
        return known;
      }
      Symbol added = draft.definition.add(head.name, at);
      if (added != null) {
        added.copy(head);
        added.value = number * MOST_TOP_NAMES + procedureCount;
        procedureCount++;
      }
      draft.definition.show();
      return added;
    }

    private void block(Symbol told) {
      int index = told.value - number * MOST_TOP_NAMES;
      if (index >= 0 && index < MOST_TOP_NAMES) {
        draft.entries[index] = code.top;
      }
      code.emit(Code.ENTER, localSize * 16 + told.most);
      openBody(told.type, Code.LEAVE);
      if (words.take(Words.BEGIN)) {
        statements(0);
      }
      code.emit(told.type != NO_TYPE ? Code.NO_RESULT : Code.LEAVE, 0);
      words.expect(Words.END);
      int at = words.place();
      if (words.takeName() != told.name) {
        words.fail(WRONG_TWICE, at);
      }
      words.expect(Words.SEMICOLON);
    }

    private void openBody(int bodyResult, int bodyLeaving) {
      result = bodyResult;
      leaving = bodyLeaving;
      inLoop = false;
      exits = -1;
      forsInLoop = 0;
    }

    void ending() {
      if (sort != DEFINITION_UNIT) {
        draft.body = code.top;
        openBody(NO_TYPE, Code.END_BODY);
        if (words.take(Words.BEGIN)) {
          statements(0);
        }
        code.emit(Code.END_BODY, 0);
      }
      words.expect(Words.END);
      int at = words.place();
      if (words.takeName() != unitName) {
        words.fail(WRONG_TWICE, at);
      } else if (sort == IMPLEMENTATION_UNIT && draft.definition.awaitsAny()) {
        words.fail(WRONG_DEFINITION, at);
      }
      words.expect(Words.POINT);
      words.expect(Words.LACK);
      // Only more than 512 calls can come to this.
      if (code.isFull()) {
        words.fail(WRONG_MANY, at);
      }
    }

    void keep() {
      Unit kept = words.failed() ? null : loader.unitFor(number, unitName);
      if (kept == null) {
        code.cut(mark);
      } else if (sort == DEFINITION_UNIT) {
        kept.takeDefinition(draft, loader.nextKey());
        code.cut(mark);
      } else {
        kept.takeOther(draft, sort);
      }
    }

    private void statements(int depth) {
      if (!beginsStatements()) {
        return;
      }
      if (depth >= MOST_NESTED) {
        words.fail(WRONG_WORD, words.place());
        return;
      }
      statement(depth + 1);
      for (int i = 0; i < MOST_WORDS && words.take(Words.SEMICOLON); i++) {
        statement(depth + 1);
      }
    }

    private boolean beginsStatements() {
      return words.kind() == Words.SEMICOLON || beginsStatement();
    }

    private boolean beginsStatement() {
      switch (words.kind()) {
        case Words.NAME:
        case Words.IF:
        case Words.WHILE:
        case Words.REPEAT:
        case Words.LOOP:
        case Words.EXIT:
        case Words.FOR:
        case Words.RETURN:
          return true;
        default:
          return false;
      }
    }

    private void statement(int depth) {
      if (!beginsStatement()) {
        return;
      }
      code.emit(Code.STEP, 0);
      int kind = words.kind();
      int at = words.place();
      if (kind == Words.NAME) {
        namedStatement(depth);
        return;
      }
      words.next();
      switch (kind) {
        case Words.IF:
          ifStatement(depth);
          break;
        case Words.WHILE:
          whileStatement(depth);
          break;
        case Words.REPEAT:
          repeatStatement(depth);
          break;
        case Words.LOOP:
          loopStatement(depth);
          break;
        case Words.FOR:
          forStatement(depth);
          break;
        case Words.EXIT:
          exitStatement(at);
          break;
        default:
          returnStatement(at, depth);
          break;
      }
    }

    private void namedStatement(int depth) {
      int at = words.place();
      Symbol symbol = expressions.meaning(words.takeName());
      if (symbol == null) {
        words.fail(WRONG_MEANING, at);
        return;
      }
      boolean indexed = words.kind() == Words.OPEN_INDEX;
      if (indexed || words.kind() == Words.BECOMES) {
        if (symbol.kind != Symbol.VARIABLE || symbol.isArray() != indexed) {
          words.fail(WRONG_FIT, at);
          return;
        }
        int type = expressions.address(symbol, depth);
        words.expect(Words.BECOMES);
        int valuePlace = words.place();
        if ((expressions.expression(depth) & SIMPLE_BITS) != type) {
          words.fail(WRONG_FIT, valuePlace);
        }
        code.emit(Code.STORE, 0);
      } else if (symbol.isPlainProcedure()) {
        expressions.call(symbol, at, depth);
      } else {
        words.fail(WRONG_FIT, at);
      }
    }

    private void ifStatement(int depth) {
      int ends = -1;
      expressions.wantedExpression(BOOLEAN_TYPE, depth);
      int skip = code.emit(Code.JUMP_FALSE, -1);
      words.expect(Words.THEN);
      statements(depth);
      for (int i = 0; i < MOST_WORDS && words.take(Words.ELSIF); i++) {
        ends = code.emit(Code.JUMP, ends);
        code.endChain(skip);
        expressions.wantedExpression(BOOLEAN_TYPE, depth);
        skip = code.emit(Code.JUMP_FALSE, -1);
        words.expect(Words.THEN);
        statements(depth);
      }
      if (words.take(Words.ELSE)) {
        ends = code.emit(Code.JUMP, ends);
        code.endChain(skip);
        skip = -1;
        statements(depth);
      }
      words.expect(Words.END);
      code.endChain(skip);
      code.endChain(ends);
    }

    private void whileStatement(int depth) {
      int again = code.top;
      expressions.wantedExpression(BOOLEAN_TYPE, depth);
      int skip = code.emit(Code.JUMP_FALSE, -1);
      words.expect(Words.DO);
      statements(depth);
      words.expect(Words.END);
      code.emit(Code.STEP, 0);
      code.emit(Code.JUMP, again);
      code.endChain(skip);
    }

    private void repeatStatement(int depth) {
      int again = code.top;
      statements(depth);
      words.expect(Words.UNTIL);
      expressions.wantedExpression(BOOLEAN_TYPE, depth);
      code.emit(Words.NOT, 0);
      int skip = code.emit(Code.JUMP_FALSE, -1);
      code.emit(Code.STEP, 0);
      code.emit(Code.JUMP, again);
      code.endChain(skip);
    }

    private void loopStatement(int depth) {
      boolean wasInLoop = inLoop;
      int outerExits = exits;
      int outerFors = forsInLoop;
      inLoop = true;
      exits = -1;
      forsInLoop = 0;
      int again = code.top;
      statements(depth);
      words.expect(Words.END);
      code.emit(Code.STEP, 0);
      code.emit(Code.JUMP, again);
      code.endChain(exits);
      inLoop = wasInLoop;
      exits = outerExits;
      forsInLoop = outerFors;
    }

    private void exitStatement(int at) {
      if (!inLoop) {
        words.fail(WRONG_FIT, at);
      }
      // Each FOR that is left has its end among the operands.
      code.emit(Code.DROP, forsInLoop);
      exits = code.emit(Code.JUMP, exits);
    }

    private void forStatement(int depth) {
      int at = words.place();
      Symbol symbol = expressions.meaning(words.takeName());
      if (symbol == null) {
        words.fail(WRONG_MEANING, at);
        return;
      }
      boolean near = symbol.reach == Symbol.OWN || symbol.reach == Symbol.LOCAL;
      if (symbol.kind != Symbol.VARIABLE || symbol.type != INTEGER_TYPE || !near) {
        words.fail(WRONG_FIT, at);
        return;
      }
      expressions.addressCell(symbol);
      words.expect(Words.BECOMES);
      expressions.wantedExpression(INTEGER_TYPE, depth);
      words.expect(Words.TO);
      expressions.wantedExpression(INTEGER_TYPE, depth);
      int by = 1;
      if (words.take(Words.BY)) {
        int byPlace = words.place();
        by = expressions.constant(INTEGER_TYPE, depth) >> 8;
        if (by == 0) {
          words.fail(WRONG_CONSTANT, byPlace);
        }
      }
      words.expect(Words.DO);
      code.emit(Code.FOR_FIRST, 0);
      int again = code.top;
      expressions.addressCell(symbol);
      code.emit(Code.LOAD, 0);
      int ends = code.emit(by < 0 ? Code.FOR_DOWN : Code.FOR_UP, -1);
      forsInLoop++;
      statements(depth);
      forsInLoop--;
      words.expect(Words.END);
      code.emit(Code.STEP, 0);
      expressions.addressCell(symbol);
      code.emit(Code.CONSTANT, by);
      ends = code.emit(Code.FOR_NEXT, ends);
      code.emit(Code.JUMP, again);
      code.endChain(ends);
      code.emit(Code.DROP, 1);
    }

    private void returnStatement(int at, int depth) {
      if (words.beginsExpression() != (result != NO_TYPE)) {
        words.fail(WRONG_FIT, at);
        return;
      }
      if (result == NO_TYPE) {
        code.emit(leaving, 0);
        return;
      }
      int valuePlace = words.place();
      if ((expressions.expression(depth) & SIMPLE_BITS) != result) {
        words.fail(WRONG_FIT, valuePlace);
      }
      code.emit(Code.LEAVE_WITH, 0);
    }
  }

  /** The units that there are, and those that are LINKED, as they were compiled then. */
  private static final class Loader {
    private final Unit[] units = new Unit[MOST_UNITS];
    private int unitCount;
    private int keys;

    private final int[] order = new int[MOST_UNITS];
    private int linkedCount;
    private final boolean[] met = new boolean[MOST_UNITS];
    private final int[] sizes = new int[MOST_UNITS];
    private final int[] bodies = new int[MOST_UNITS];
    private final int[] entries = new int[MOST_UNITS * MOST_TOP_NAMES];

    Loader() {
      for (int i = 0; i < MOST_UNITS; i++) {
        units[i] = new Unit();
      }
    }

    int find(int name) {
      for (int i = 0; i < unitCount; i++) {
        if (units[i].name == name) {
          return i;
        }
      }
      return -1;
    }

    Unit unitAt(int k) {
      return k >= 0 && k < unitCount ? units[k] : null;
    }

    Unit unitFor(int k, int name) {
      if (k == unitCount && unitCount < MOST_UNITS) {
        units[k].name = name;
        unitCount++;
      }
      return unitAt(k);
    }

    int nextKey() {
      keys++;
      return keys;
    }

    int join(int k) {
      linkedCount = 0;
      for (int i = 0; i < MOST_UNITS; i++) {
        met[i] = false;
      }
      int answer = come(k, 0);
      if (answer != 0) {
        linkedCount = 0;
        return answer;
      }
      Arrays.fill(sizes, -1);
      for (int i = 0; i < linkedCount; i++) {
        int number = order[i];
        sizes[number] = units[number].size;
        bodies[number] = units[number].body;
        System.arraycopy(units[number].entries, 0, entries, number * MOST_TOP_NAMES, MOST_TOP_NAMES);
      }
      return linkedCount;
    }

    /** 0, or what link() answers if a unit is LACKING or OLD. */
    private int come(int number, int depth) {
      Unit unit = unitAt(number);
      if (unit == null || depth >= MOST_UNITS || linkedCount >= MOST_UNITS) {
        return 0;
      }
      met[number] = true;
      boolean imported = unit.sort == IMPLEMENTATION_UNIT;
      if (imported && unit.ownKey != unit.key) {
        return -20 - number;
      }
      for (int i = 0; i < unit.definitionImportCount && imported; i++) {
        int answer = follow(number, unit.definitionImports[i], unit.definitionKeys[i], depth);
        if (answer != 0) {
          return answer;
        }
      }
      for (int i = 0; i < unit.importCount; i++) {
        int answer = follow(number, unit.imports[i], unit.importKeys[i], depth);
        if (answer != 0) {
          return answer;
        }
      }
      order[linkedCount] = number;
      linkedCount++;
      return 0;
    }

    private int follow(int number, int imported, int importKey, int depth) {
      Unit unit = unitAt(imported);
      if (unit == null || unit.key != importKey) {
        return -20 - number;
      }
      if (unit.sort != IMPLEMENTATION_UNIT) {
        return -2 - imported;
      }
      return met[imported] ? 0 : come(imported, depth + 1);
    }

    int wholeSize() {
      int whole = 0;
      for (int i = 0; i < linkedCount; i++) {
        whole += sizes[order[i]];
      }
      return whole;
    }

    /** -1, if this unit is not LINKED. */
    int linkedSize(int k) {
      return k >= 0 && k < MOST_UNITS ? sizes[k] : -1;
    }

    int bodyOf(int i) {
      return i >= 0 && i < linkedCount ? bodies[order[i]] : -1;
    }

    int entryOf(int procedure) {
      return procedure >= 0 && procedure < entries.length ? entries[procedure] : -1;
    }
  }

  /** A PROCESS: where it stands in the code, and its operands. Its words are the machine's. */
  private static final class Task {
    // In one call there are never more: twenty levels with ten of them, at most.
    private static final int OPERANDS_OF_A_CALL = 200;

    private final int number;
    private final int base;
    private final int[] operands;
    private int operandCount;
    private int size;
    private int used;
    private int frame;
    private int next;
    private int procedure;
    private boolean begun;

    Task(int number, int base, int mostSize) {
      this.number = number;
      this.base = base;
      operands = new int[(mostSize / Machine.FRAME_SIZE + 1) * OPERANDS_OF_A_CALL];
    }

    void renew(int newSize, int newProcedure) {
      size = newSize;
      procedure = newProcedure;
      operandCount = 0;
      used = 0;
      frame = base;
      next = -1;
      begun = false;
    }

    void push(int value) {
      if (operandCount < operands.length) {
        operands[operandCount] = value;
        operandCount++;
      }
    }

    int pop() {
      if (operandCount <= 0) {
        return 0;
      }
      operandCount--;
      return operands[operandCount];
    }

    int peek() {
      return operandCount > 0 ? operands[operandCount - 1] : 0;
    }

    void drop(int count) {
      operandCount = Math.max(0, operandCount - count);
    }
  }

  /** The machine: it works the cells of what is LINKED, with IN, OUT and the CLOCK. */
  private static final class Machine {
    static final int FRAME_SIZE = 8;
    private static final int MOST_PROCESSES = 8;
    private static final int FIRST_SIZE = 1600;
    private static final int MOST_SIZE = 400;
    private static final int LEAST_SIZE = 16;
    private static final int MOST_OUT = 2000;
    private static final int MOST_IN = 100;
    private static final int HALTED = 1;
    private static final int TRAPPED = 10;
    // Two hundred calls may end one behind the other without a STEP, each with the rest of a long EXPRESSION.
    private static final int MOST_WITHOUT_STEP = 10000000;

    private final Code code;
    private final Loader loader;
    private final Disk disk;
    private final int[] memory;
    private final Task[] processes = new Task[MOST_PROCESSES];
    private Task current;
    private int processCount;
    private int waiting;
    private int waitingPlace;
    private int steps;
    private int clockNumber;
    private int state;
    private int bodyIndex;
    private boolean begun;
    private final byte[] outBytes = new byte[MOST_OUT];
    private int outCount;
    private final int[] inNumbers = new int[MOST_IN];
    private int inCount;
    private int inNext;

    Machine(Code code, Loader loader, Disk disk) {
      this.code = code;
      this.loader = loader;
      this.disk = disk;
      int base = MOST_UNITS * MOST_TOP_SIZE;
      for (int i = 0; i < MOST_PROCESSES; i++) {
        int mostSize = i == 0 ? FIRST_SIZE : MOST_SIZE;
        processes[i] = new Task(i + 1, base, mostSize);
        base += mostSize;
      }
      memory = new int[base];
      current = processes[0];
    }

    void begin() {
      // Words of calls are cleared as they begin.
      Arrays.fill(memory, 0, MOST_UNITS * MOST_TOP_SIZE, 0);
      disk.closeAll();
      current = processes[0];
      current.renew(FIRST_SIZE, -1);
      current.begun = true;
      current.next = loader.bodyOf(0);
      processCount = 1;
      waiting = 0;
      waitingPlace = 0;
      steps = 0;
      state = 0;
      bodyIndex = 0;
      outCount = 0;
      inNext = 0;
      begun = true;
    }

    boolean addNumber(int v) {
      if (inCount >= MOST_IN) {
        return false;
      }
      inNumbers[inCount] = v;
      inCount++;
      return true;
    }

    int told(int what) {
      switch (what) {
        case 0:
          return steps;
        case 1:
          return outCount;
        case 2:
          return current.number;
        case 3:
          return waiting;
        case 4:
          return current.used;
        default:
          return processCount;
      }
    }

    int go(int n) {
      advance();
      for (int i = 0; i < n && state == 0; i++) {
        takeStep();
        advance();
      }
      return state;
    }

    /** To the next STEP, or to the end. */
    private void advance() {
      for (int i = 0; i < MOST_WITHOUT_STEP && state == 0; i++) {
        int cell = code.cell(current.next);
        int operation = cell & 255;
        if (operation == Code.STEP) {
          return;
        }
        current.next++;
        execute(operation, cell >> 8);
      }
    }

    private void takeStep() {
      steps++;
      current.next++;
      if (clockNumber > 0 && steps % clockNumber == 0 && waiting > 0) {
        store(waitingPlace, current.number);
        int woken = waiting;
        waiting = 0;
        handTo(woken);
      }
    }

    private void execute(int operation, int number) {
      if (operation < Code.FIRST_STANDARD) {
        operate(operation);
      } else if (operation <= Code.ODD) {
        pushOrTrap(Code.calculateFunction(operation, current.pop()));
      } else if (operation >= Code.JUMP) {
        control(operation, number);
      } else if (operation >= Code.STEP) {
        move(operation, number);
      } else if (operation == Code.OPENFILE || operation == Code.NEWFILE || operation == Code.DELETEFILE) {
        namedFileOperation(operation, number);
      } else if (operation == Code.LENGTH || operation == Code.CLOSEFILE) {
        numberedFileOperation(operation);
      } else if (operation >= Code.READBYTE) {
        positionedFileOperation(operation);
      } else if (operation >= Code.NEWPROCESS) {
        processOperation(operation, number);
      } else {
        standardOperation(operation, number);
      }
    }

    private void operate(int sign) {
      Task p = current;
      int b = p.pop();
      if (sign == Words.NOT) {
        p.push(1 - b);
        return;
      }
      int a = p.pop();
      pushOrTrap(Code.calculate(sign, a, b));
    }

    private void pushOrTrap(int answer) {
      if (answer >= Code.TRAP) {
        trap(answer - Code.TRAP);
      } else {
        current.push(answer);
      }
    }

    private void trap(int number) {
      if (number != 0) {
        state = TRAPPED + number;
      }
    }

    int load(int address) {
      return address >= 0 && address < memory.length ? memory[address] : 0;
    }

    private void store(int address, int value) {
      if (address >= 0 && address < memory.length) {
        memory[address] = value;
      }
    }

    private void move(int operation, int number) {
      Task p = current;
      switch (operation) {
        case Code.CONSTANT:
        case Code.ADDRESS:
          p.push(number);
          break;
        case Code.LOCAL:
          p.push(p.frame + FRAME_SIZE + number);
          break;
        case Code.POINTER:
          p.push(load(p.frame + FRAME_SIZE + number));
          break;
        case Code.INDEX:
          int index = p.pop();
          trap(index < 0 || index >= number ? 3 : 0);
          p.push(p.pop() + index);
          break;
        case Code.LOAD:
          p.push(load(p.pop()));
          break;
        case Code.STORE:
          int value = p.pop();
          store(p.pop(), value);
          break;
        case Code.DROP:
          p.drop(number);
          break;
        default:
          pushOrTrap(Code.calculate(Words.MINUS, 0, p.pop()));
          break;
      }
    }

    private void control(int operation, int number) {
      Task p = current;
      switch (operation) {
        case Code.JUMP:
          p.next = number;
          break;
        case Code.JUMP_FALSE:
          jumpIf(p.pop() == 0, number);
          break;
        case Code.KEEP_FALSE:
          keepIf(0, number);
          break;
        case Code.KEEP_TRUE:
          keepIf(1, number);
          break;
        case Code.FOR_FIRST:
          int end = p.pop();
          int first = p.pop();
          store(p.pop(), first);
          p.push(end);
          break;
        case Code.FOR_UP:
          int low = p.pop();
          jumpIf(low > p.peek(), number);
          break;
        case Code.FOR_DOWN:
          int high = p.pop();
          jumpIf(high < p.peek(), number);
          break;
        case Code.FOR_NEXT:
          forNext(number);
          break;
        case Code.CALL:
          enter(number);
          break;
        case Code.LEAVE:
          leave();
          break;
        case Code.LEAVE_WITH:
          int answer = p.pop();
          leave();
          p.push(answer);
          break;
        case Code.NO_RESULT:
          trap(6);
          break;
        default:
          endBody();
          break;
      }
    }

    private void jumpIf(boolean jumps, int target) {
      if (jumps) {
        current.next = target;
      }
    }

    private void keepIf(int kept, int target) {
      if (current.peek() == kept) {
        current.next = target;
      } else {
        current.drop(1);
      }
    }

    private void forNext(int end) {
      int by = current.pop();
      int address = current.pop();
      int value = load(address) + by;
      if (fits(value)) {
        store(address, value);
      } else {
        current.next = end;
      }
    }

    /** A frame has where to go on, the frame before it and how many operands that one had, then its variables. */
    private void enter(int procedure) {
      Task p = current;
      int entry = loader.entryOf(procedure);
      int shape = code.cell(entry) >> 8;
      int size = shape >> 4;
      int given = shape & 15;
      if (p.used + FRAME_SIZE + size > p.size) {
        trap(5);
        return;
      }
      int frame = p.base + p.used;
      for (int i = given; i < size; i++) {
        store(frame + FRAME_SIZE + i, 0);
      }
      for (int i = given - 1; i >= 0; i--) {
        store(frame + FRAME_SIZE + i, p.pop());
      }
      store(frame, p.next);
      store(frame + 1, p.frame);
      store(frame + 2, p.operandCount);
      p.frame = frame;
      p.used += FRAME_SIZE + size;
      p.next = entry + 1;
    }

    private void leave() {
      Task p = current;
      int frame = p.frame;
      p.used = frame - p.base;
      p.next = load(frame);
      p.frame = load(frame + 1);
      p.operandCount = Math.max(0, Math.min(load(frame + 2), p.operandCount));
      if (p.next < 0) {
        trap(7);
      }
    }

    private void endBody() {
      current.operandCount = 0;
      bodyIndex++;
      if (bodyIndex < loader.linkedCount) {
        current.next = loader.bodyOf(bodyIndex);
      } else {
        state = HALTED;
      }
    }

    private void standardOperation(int operation, int number) {
      Task p = current;
      switch (operation) {
        case Code.INC:
          int more = p.pop();
          change(p.pop(), more);
          break;
        case Code.DEC:
          int less = p.pop();
          change(p.pop(), -less);
          break;
        case Code.WRITEINT:
          putNumber(p.pop());
          break;
        case Code.WRITECHAR:
          put(p.pop());
          break;
        case Code.WRITESTRING:
          for (int i = 0; i < number && i < MOST_STRING; i++) {
            put(code.cell(p.next + i));
          }
          p.next += number;
          break;
        case Code.WRITELN:
          put(10);
          break;
        case Code.READINT:
          store(p.pop(), nextNumber());
          break;
        default:
          state = HALTED;
          break;
      }
    }

    private void change(int address, int by) {
      int value = load(address) + by;
      if (fits(value)) {
        store(address, value);
      } else {
        trap(1);
      }
    }

    private void put(int letter) {
      if (outCount < MOST_OUT) {
        outBytes[outCount] = (byte) letter;
        outCount++;
      }
    }

    private void putNumber(int value) {
      int rest = value;
      if (rest < 0) {
        put('-');
        rest = -rest;
      }
      for (int unit = 10000; unit > 0; unit /= 10) {
        if (rest >= unit || unit == 1) {
          put('0' + rest / unit % 10);
        }
      }
    }

    private int nextNumber() {
      if (inNext >= inCount) {
        return 0;
      }
      inNext++;
      return inNumbers[inNext - 1];
    }

    private void processOperation(int operation, int number) {
      Task p = current;
      int second = p.pop();
      int first = p.pop();
      if (operation == Code.NEWPROCESS) {
        makeProcess(number, first, second);
      } else if (operation == Code.TRANSFER) {
        store(first, p.number);
        handTo(second);
      } else {
        int other = load(second);
        if (waiting > 0 || other == 0 || other == p.number) {
          trap(7);
          return;
        }
        store(first, p.number);
        waiting = p.number;
        waitingPlace = second;
        handTo(other);
      }
    }

    private void makeProcess(int procedure, int size, int address) {
      if (size < LEAST_SIZE || size > MOST_SIZE || processCount >= MOST_PROCESSES) {
        trap(7);
        return;
      }
      processes[processCount].renew(size, procedure);
      processCount++;
      store(address, processCount);
    }

    private void handTo(int number) {
      if (number < 1 || number > processCount) {
        trap(7);
        return;
      }
      current = processes[number - 1];
      if (!current.begun) {
        current.begun = true;
        enter(current.procedure);
      }
    }

    private void namedFileOperation(int operation, int nameLength) {
      Task p = current;
      int f = disk.find(code, p.next, nameLength);
      if (operation == Code.DELETEFILE) {
        disk.remove(f);
      } else if (operation == Code.OPENFILE) {
        store(p.pop(), disk.open(f));
      } else {
        store(p.pop(), disk.openEmpty(f >= 0 ? f : disk.make(code, p.next, nameLength)));
      }
      p.next += nameLength;
    }

    private void numberedFileOperation(int operation) {
      int number = current.pop();
      if (!disk.isOpen(number)) {
        trap(8);
      } else if (operation == Code.CLOSEFILE) {
        disk.close(number);
      } else {
        current.push(disk.openLength(number));
      }
    }

    private void positionedFileOperation(int operation) {
      int last = current.pop();
      int number = current.pop();
      if (!disk.isOpen(number)) {
        trap(8);
      } else if (operation == Code.READBYTE) {
        store(last, disk.nextByte(number));
      } else if (operation == Code.SETPOS) {
        disk.setPosition(number, last);
      } else if (!disk.putByte(number, last)) {
        trap(8);
      }
    }
  }

  /** The disk with its files, and the numbers that are OPEN. */
  private static final class Disk {
    private static final int SECTORS = 64;
    private static final int SECTOR_SIZE = 16;
    private static final int MOST_FILES = 12;
    private static final int MOST_OPEN = 6;

    private final byte[] bytes = new byte[SECTORS * SECTOR_SIZE];
    private final boolean[] taken = new boolean[SECTORS];
    private final int[] names = new int[MOST_FILES * MOST_STRING];
    /** -1: there is no such file, for a name may have no letters. */
    private final int[] nameLengths = new int[MOST_FILES];
    private final int[] lengths = new int[MOST_FILES];
    private final int[] sectors = new int[MOST_FILES * SECTORS];
    /** -1: the number is not OPEN. */
    private final int[] openFiles = new int[MOST_OPEN];
    private final int[] positions = new int[MOST_OPEN];

    Disk() {
      Arrays.fill(nameLengths, -1);
      Arrays.fill(openFiles, -1);
    }

    boolean has(int f) {
      return f >= 0 && f < MOST_FILES && nameLengths[f] >= 0;
    }

    int sectorCount(int f) {
      return has(f) ? (lengths[f] + SECTOR_SIZE - 1) / SECTOR_SIZE : 0;
    }

    int sectorAt(int f, int i) {
      return has(f) && i >= 0 && i < SECTORS ? sectors[f * SECTORS + i] : 0;
    }

    int letterAt(int f, int i) {
      return has(f) && i >= 0 && i < MOST_STRING ? names[f * MOST_STRING + i] : 0;
    }

    private int spotOf(int f, int i) {
      int at = f * SECTORS + i / SECTOR_SIZE;
      return i >= 0 && at >= 0 && at < sectors.length ? sectors[at] * SECTOR_SIZE + i % SECTOR_SIZE : -1;
    }

    int byteAt(int f, int i) {
      int spot = spotOf(f, i);
      return spot >= 0 && spot < bytes.length ? bytes[spot] & 255 : 0;
    }

    long eightBytes(int i) {
      if (i < 0 || i >= bytes.length / 8) {
        return 0;
      }
      long eight = 0;
      for (int j = 0; j < 8; j++) {
        eight = (eight << 8) | (bytes[i * 8 + j] & 255);
      }
      return eight;
    }

    int wipe() {
      int count = 0;
      for (int f = 0; f < MOST_FILES; f++) {
        if (has(f)) {
          remove(f);
          count++;
        }
      }
      Arrays.fill(bytes, (byte) 0);
      return count;
    }

    /** The file of which the cells from here on have the name; -1, if there is none. */
    int find(Code code, int at, int size) {
      for (int f = 0; f < MOST_FILES; f++) {
        int same = 0;
        while (same < nameLengths[f] && names[f * MOST_STRING + same] == code.cell(at + same)) {
          same++;
        }
        if (same == size && nameLengths[f] == size) {
          return f;
        }
      }
      return -1;
    }

    private int freeNumber() {
      for (int i = 0; i < MOST_OPEN; i++) {
        if (openFiles[i] < 0) {
          return i;
        }
      }
      return -1;
    }

    int open(int f) {
      int number = freeNumber();
      if (number < 0 || !has(f)) {
        return -1;
      }
      openFiles[number] = f;
      positions[number] = 0;
      return number;
    }

    int openEmpty(int f) {
      if (freeNumber() >= 0) {
        empty(f);
      }
      return open(f);
    }

    /** A new file; -1, if there can be none, or no number for it. */
    int make(Code code, int at, int size) {
      int f = 0;
      while (f < MOST_FILES && has(f)) {
        f++;
      }
      if (f >= MOST_FILES || freeNumber() < 0 || size < 0 || size > MOST_STRING) {
        return -1;
      }
      for (int i = 0; i < size; i++) {
        names[f * MOST_STRING + i] = code.cell(at + i);
      }
      nameLengths[f] = size;
      lengths[f] = 0;
      return f;
    }

    private void empty(int f) {
      if (!has(f)) {
        return;
      }
      for (int i = 0; i < lengths[f]; i += SECTOR_SIZE) {
        taken[sectors[f * SECTORS + i / SECTOR_SIZE]] = false;
      }
      lengths[f] = 0;
      for (int i = 0; i < MOST_OPEN; i++) {
        if (openFiles[i] == f) {
          positions[i] = 0;
        }
      }
    }

    void remove(int f) {
      if (!has(f)) {
        return;
      }
      empty(f);
      nameLengths[f] = -1;
      for (int i = 0; i < MOST_OPEN; i++) {
        if (openFiles[i] == f) {
          openFiles[i] = -1;
        }
      }
    }

    boolean isOpen(int number) {
      return number >= 0 && number < MOST_OPEN && openFiles[number] >= 0;
    }

    int openCount() {
      int count = 0;
      for (int i = 0; i < MOST_OPEN; i++) {
        count += openFiles[i] >= 0 ? 1 : 0;
      }
      return count;
    }

    void close(int number) {
      if (isOpen(number)) {
        openFiles[number] = -1;
      }
    }

    void closeAll() {
      Arrays.fill(openFiles, -1);
    }

    int openLength(int number) {
      return isOpen(number) ? lengths[openFiles[number]] : 0;
    }

    int nextByte(int number) {
      if (!isOpen(number) || positions[number] >= openLength(number)) {
        return -1;
      }
      positions[number]++;
      return byteAt(openFiles[number], positions[number] - 1);
    }

    void setPosition(int number, int position) {
      if (isOpen(number)) {
        positions[number] = Math.max(0, Math.min(position, openLength(number)));
      }
    }

    /** False, if it needs a SECTOR and none is free. */
    boolean putByte(int number, int value) {
      if (!isOpen(number)) {
        return false;
      }
      int f = openFiles[number];
      int position = positions[number];
      if (position >= lengths[f]) {
        if (position % SECTOR_SIZE == 0 && !addSector(f, position / SECTOR_SIZE)) {
          return false;
        }
        lengths[f]++;
      }
      int spot = spotOf(f, position);
      if (spot >= 0 && spot < bytes.length) {
        bytes[spot] = (byte) value;
      }
      positions[number]++;
      return true;
    }

    private boolean addSector(int f, int count) {
      for (int i = 0; i < SECTORS && count < SECTORS; i++) {
        if (!taken[i]) {
          taken[i] = true;
          sectors[f * SECTORS + count] = i;
          return true;
        }
      }
      return false;
    }
  }
}
