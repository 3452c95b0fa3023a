import java.util.Arrays;

/**
 * A language that paints pages: texts come over a tape, are run in steps, and leave operands, printed bytes and
 * pages of bits. The document's promises are the face below; the classes inside hold the parts of the machine.
 *
 * <p>No object of the language is a Java object: each is packed into one long, and all rows are made once, so that
 * a long run makes nothing new.
 */
public final class PaintTongue {
  public static final int NONE = -1;

  private static final int TAPE_LIMIT = 4000;
  private static final int STEPS_LIMIT = 20000;
  private static final int LEAST_SIDE = 8, GREATEST_SIDE = 96;

  // The kinds, with the document's numbers.
  private static final int INTEGER = 0, FIXED = 1, BOOLEAN = 2, NULL = 3, MARK = 4, NAME = 5, OPERATOR = 6,
      SAVE = 7, STRING = 8, ROW = 9, DICT = 10;

  // The errors, with the document's numbers.
  private static final int UNDERFLOW = 1, OVERFLOW = 2, TYPE = 3, RANGE = 4, UNDEFINED = 5, RESULT = 6,
      DICTFULL = 7, DICTSTACKFULL = 8, DICTSTACKEMPTY = 9, EXECFULL = 10, EXIT = 11, RESTORE = 12, FONT = 13,
      LIMIT = 14, POINT = 15, SYNTAX = 16, NOMARK = 17, VM = 18;

  // What the operator stop answers in place of an error, since no error is kept of it.
  private static final int HALT = 100;

  // An object in a long: its kind in the four highest bits, then whether it is executable; below them its value, or
  // of a composite one the body, the place in it and the length.
  private static final int KIND_SHIFT = 60, BODY_SHIFT = 22, PLACE_SHIFT = 11;
  private static final int BODY_BITS = 0xFFF, PLACE_BITS = 0x7FF;
  private static final long EXECUTABLE = 1L << 59;
  private static final long VALUE_BITS = 0xFFFFFFFFL;
  private static final long SLICE_BITS = 0x3FFFFFL;
  private static final long NOTHING = -1L;
  private static final long NULL_THING = (long) NULL << KIND_SHIFT;
  private static final long MARK_THING = (long) MARK << KIND_SHIFT;
  private static final long FALSE_THING = (long) BOOLEAN << KIND_SHIFT;
  private static final long TRUE_THING = FALSE_THING | 1;

  private static final int ONE = 65536;

  // The operators: a name, and what it takes, the last one on top (a any, x number, i integer, b boolean, s string,
  // r row, d dict, e row or string, c composite, p procedure, k key, v save, z matrix; behind / the form with a row
  // on top). Their numbers are their places in these texts, and the numbers of their names.
  private static final String STACK_WORDS = "pop a exch aa dup a copy a index i roll ii clear - count - mark - [ - << - cleartomark - counttomark -";
  private static final int OP_POP = 0, OP_EXCH = 1, OP_DUP = 2, OP_COPY = 3, OP_INDEX = 4, OP_ROLL = 5,
      OP_CLEAR = 6, OP_COUNT = 7, OP_MARK = 8, OP_ROW_MARK = 9, OP_DICT_MARK = 10, OP_CLEARTOMARK = 11,
      OP_COUNTTOMARK = 12;
  private static final String NUMBER_WORDS = "add xx sub xx mul xx div xx idiv ii mod ii neg x abs x ceiling x floor x round x truncate x sqrt x bitshift ii and aa or aa xor aa not a cvi a cvr a";
  private static final int OP_ADD = 13, OP_SUB = 14, OP_MUL = 15, OP_DIV = 16, OP_IDIV = 17, OP_MOD = 18,
      OP_NEG = 19, OP_ABS = 20, OP_CEILING = 21, OP_FLOOR = 22, OP_ROUND = 23, OP_TRUNCATE = 24,
      OP_SQRT = 25, OP_BITSHIFT = 26, OP_AND = 27, OP_OR = 28, OP_XOR = 29, OP_NOT = 30, OP_CVI = 31,
      OP_CVR = 32;
  private static final String OBJECT_WORDS = "eq aa ne aa gt aa ge aa lt aa le aa cvx a cvl a xcheck a type a cvn s cvs as";
  private static final int OP_EQ = 33, OP_NE = 34, OP_GT = 35, OP_GE = 36, OP_LT = 37, OP_LE = 38,
      OP_CVX = 39, OP_CVL = 40, OP_XCHECK = 41, OP_TYPE = 42, OP_CVN = 43, OP_CVS = 44;
  private static final String ROW_WORDS = "array i string i dict i ] - >> - length a maxlength d get aa put aaa getinterval eii putinterval eie aload r astore r search ss anchorsearch ss token s";
  private static final int OP_ARRAY = 45, OP_STRING = 46, OP_DICT = 47, OP_ROW_END = 48, OP_DICT_END = 49,
      OP_LENGTH = 50, OP_MAXLENGTH = 51, OP_GET = 52, OP_PUT = 53, OP_GETINTERVAL = 54, OP_PUTINTERVAL = 55,
      OP_ALOAD = 56, OP_ASTORE = 57, OP_SEARCH = 58, OP_ANCHORSEARCH = 59, OP_TOKEN = 60;
  private static final String DICT_WORDS = "def ka load k store ka begin d end - known dk where k undef dk currentdict - countdictstack -";
  private static final int OP_DEF = 61, OP_LOAD = 62, OP_STORE = 63, OP_BEGIN = 64, OP_END = 65,
      OP_KNOWN = 66, OP_WHERE = 67, OP_UNDEF = 68, OP_CURRENTDICT = 69, OP_COUNTDICTSTACK = 70;
  private static final String TELL_WORDS = "= a == a print s";
  private static final int OP_TELL = 71, OP_TELL_FULL = 72, OP_PRINT = 73;
  private static final String CONTROL_WORDS = "exec a if bp ifelse bpp repeat ip loop p for xxxp forall cp exit - stop - stopped a bind p save - restore v vmstatus -";
  private static final int OP_EXEC = 74, OP_IF = 75, OP_IFELSE = 76, OP_REPEAT = 77, OP_LOOP = 78,
      OP_FOR = 79, OP_FORALL = 80, OP_EXIT = 81, OP_STOP = 82, OP_STOPPED = 83, OP_BIND = 84, OP_SAVE = 85,
      OP_RESTORE = 86, OP_VMSTATUS = 87;
  private static final String STATE_WORDS = "gsave - grestore - grestoreall - initgraphics - setlinewidth x currentlinewidth - setlinecap i setlinejoin i setmiterlimit x setgray x currentgray - setdots r";
  private static final int OP_GSAVE = 88, OP_GRESTORE = 89, OP_GRESTOREALL = 90, OP_INITGRAPHICS = 91,
      OP_SETLINEWIDTH = 92, OP_CURRENTLINEWIDTH = 93, OP_SETLINECAP = 94, OP_SETLINEJOIN = 95,
      OP_SETMITERLIMIT = 96, OP_SETGRAY = 97, OP_CURRENTGRAY = 98, OP_SETDOTS = 99;
  private static final String MATRIX_WORDS = "matrix - currentmatrix r setmatrix z initmatrix - translate xx/xxr scale xx/xxr rotate x/xr concat z concatmatrix zzr invertmatrix zr transform xx/xxz dtransform xx/xxz itransform xx/xxz idtransform xx/xxz";
  private static final int OP_MATRIX = 100, OP_CURRENTMATRIX = 101, OP_SETMATRIX = 102, OP_INITMATRIX = 103,
      OP_TRANSLATE = 104, OP_SCALE = 105, OP_ROTATE = 106, OP_CONCAT = 107, OP_CONCATMATRIX = 108,
      OP_INVERTMATRIX = 109, OP_TRANSFORM = 110, OP_DTRANSFORM = 111, OP_ITRANSFORM = 112,
      OP_IDTRANSFORM = 113;
  private static final String PATH_WORDS = "newpath - moveto xx lineto xx rmoveto xx rlineto xx curveto xxxxxx rcurveto xxxxxx closepath - currentpoint - flattenpath - pathbbox - pathforall pppp";
  private static final int OP_NEWPATH = 114, OP_MOVETO = 115, OP_LINETO = 116, OP_RMOVETO = 117,
      OP_RLINETO = 118, OP_CURVETO = 119, OP_RCURVETO = 120, OP_CLOSEPATH = 121, OP_CURRENTPOINT = 122,
      OP_FLATTENPATH = 123, OP_PATHBBOX = 124, OP_PATHFORALL = 125;
  private static final String INK_WORDS = "fill - eofill - clip - eoclip - initclip - stroke - erasepage - showpage - image iiizp imagemask iibzp";
  private static final int OP_FILL = 126, OP_EOFILL = 127, OP_CLIP = 128, OP_EOCLIP = 129, OP_INITCLIP = 130,
      OP_STROKE = 131, OP_ERASEPAGE = 132, OP_SHOWPAGE = 133, OP_IMAGE = 134, OP_IMAGEMASK = 135;
  private static final String FONT_WORDS = "definefont kd findfont k scalefont dx makefont dz setfont d currentfont - show s ashow xxs widthshow xxis kshow ps stringwidth s setcharwidth xx";
  private static final int OP_DEFINEFONT = 136, OP_FINDFONT = 137, OP_SCALEFONT = 138, OP_MAKEFONT = 139,
      OP_SETFONT = 140, OP_CURRENTFONT = 141, OP_SHOW = 142, OP_ASHOW = 143, OP_WIDTHSHOW = 144,
      OP_KSHOW = 145, OP_STRINGWIDTH = 146, OP_SETCHARWIDTH = 147;
  private static final int OPERATORS = 148;
  private static final String OTHER_WORDS = "true false null integertype realtype booleantype nulltype marktype nametype operatortype savetype stringtype arraytype dicttype FontMatrix BuildChar Encoding";
  private static final int WORD_TRUE = OPERATORS, WORD_FALSE = OPERATORS + 1, WORD_NULL = OPERATORS + 2,
      WORD_TYPES = OPERATORS + 3, WORD_FONT_MATRIX = OPERATORS + 14, WORD_BUILD_CHAR = OPERATORS + 15,
      WORD_ENCODING = OPERATORS + 16;

  private final byte[] tape = new byte[TAPE_LIMIT];
  private int taped;
  private final Machine machine;
  private final Flow flow;

  public PaintTongue(int width, int height) {
    Names names = new Names();
    Memory memory = new Memory();
    Page page = new Page(nearestSide(width), nearestSide(height));
    Machine made = new Machine(names, memory, page);
    machine = made;
    flow = new Flow(made, new Reader(made));
  }

  public int feed(int a, int b, int c, int d, int e) {
    if (taped + 20 > TAPE_LIMIT) {
      return NONE;
    }
    tapeNumber(a);
    tapeNumber(b);
    tapeNumber(c);
    tapeNumber(d);
    tapeNumber(e);
    return taped;
  }

  public boolean end(int n) {
    if (n < 0 || n > taped) {
      return false;
    }
    taped = n;
    return true;
  }

  public int start() {
    int length = taped;
    taped = 0;
    flow.beginText(tape, length);
    return length;
  }

  public int run(int n) {
    if (n < 0 || n > STEPS_LIMIT) {
      return NONE;
    }
    int done = 0;
    for (int i = 0; i < n && done < n && machine.under > 0; i++) {
      int before = machine.steps;
      flow.step();
      done += machine.steps - before;
    }
    if (machine.failed) {
      return 2;
    }
    return machine.under > 0 ? 1 : 0;
  }

  public int look(int what) {
    switch (what) {
      case 0: return machine.count;
      case 1: return machine.opened;
      case 2: return machine.under;
      case 3: return machine.keptCount;
      case 4: return machine.memory.room;
      case 5: return machine.memory.bodies - Memory.OWN_BODIES;
      case 6: return machine.memory.live;
      case 7: return machine.names.met();
      case 8: return machine.printedCount;
      case 9: return machine.page.sheetsOut;
      case 10: return machine.error;
      case 11: return machine.steps;
      case 12: return machine.now.points;
      case 13: return Page.ones(machine.page.bits);
      case 14: return Page.ones(machine.now.clip);
      case 15: return machine.memory.pairs[Memory.FONTS];
      case 16: return machine.now.parts > 0 ? 1 : 0;
      default: return NONE;
    }
  }

  public int blamed(int i) {
    return machine.blamed == NONE ? NONE : machine.names.byteAt(machine.blamed, i);
  }

  public int top(int k, int what) {
    return aspect(machine.peek(k), what);
  }

  public int element(int k, int i, int what) {
    long o = machine.peek(k);
    int kind = kindOf(o);
    if (kind == NAME) {
      return what == 1 ? machine.names.byteAt(valueOf(o), i) : NONE;
    }
    if ((kind != ROW && kind != STRING) || i < 0 || i >= lengthOf(o)) {
      return NONE;
    }
    if (kind == ROW) {
      return aspect(machine.memory.cellOf(o, i), what);
    }
    return what == 1 ? machine.memory.byteOf(o, i) : NONE;
  }

  public int out(int i) {
    return i < 0 || i >= machine.printedCount || i >= Machine.PRINTED_LIMIT ? NONE : machine.printed[i] & 0xFF;
  }

  public int pixel(int k, int x, int y) {
    Page page = machine.page;
    int[] sheet = page.sheet(k);
    if (sheet == null || x < 0 || x >= page.width || y < 0 || y >= page.height) {
      return NONE;
    }
    return Page.bitAt(sheet, x, y) ? 1 : 0;
  }

  public int line(int k, int x, int y) throws IndexOutOfBoundsException {
    Page page = machine.page;
    int[] sheet = page.sheet(k);
    if (sheet == null || y < 0 || y >= page.height || x < 0) {
      throw new IndexOutOfBoundsException();
    }
    int word = x >> 5;
    long first = word < Page.WORDS ? sheet[y * Page.WORDS + word] & VALUE_BITS : 0;
    long second = word + 1 < Page.WORDS ? sheet[y * Page.WORDS + word + 1] & VALUE_BITS : 0;
    return (int) (((first << 32 | second) << (x & 31)) >>> 32);
  }

  public int graphics(int what) throws IllegalStateException, IllegalArgumentException {
    Drawing now = machine.now;
    if (what < 0 || what > 10) {
      throw new IllegalArgumentException();
    }
    if (what < 6) {
      return now.matrix[what];
    }
    if (what < 8) {
      if (now.parts == 0) {
        throw new IllegalStateException();
      }
      return what == 6 ? now.lastX : now.lastY;
    }
    if (what == 8) {
      return now.grey;
    }
    return what == 9 ? now.width : now.miter;
  }

  public int part(int i, int what) {
    Drawing now = machine.now;
    if (i < 0 || i >= now.parts || what < 0) {
      return NONE;
    }
    int kind = now.kinds[i];
    if (what == 0) {
      return kind;
    }
    if (what > 2 * Drawing.pointsOf(kind)) {
      return NONE;
    }
    int ahead = 0;
    for (int k = 0; k < i; k++) {
      ahead += Drawing.pointsOf(now.kinds[k]);
    }
    return now.places[2 * ahead + what - 1];
  }

  public void reset() {
    machine.clear();
  }

  private static int nearestSide(int n) {
    return Math.max(LEAST_SIDE, Math.min(GREATEST_SIDE, n));
  }

  private void tapeNumber(int n) {
    for (int shift = 24; shift >= 0 && taped < TAPE_LIMIT; shift -= 8) {
      tape[taped++] = (byte) (n >> shift);
    }
  }

  private int aspect(long o, int what) {
    if (o == NOTHING) {
      return NONE;
    }
    switch (what) {
      case 0: return kindOf(o);
      case 1: return amountOf(o);
      case 2: return isExecutable(o) ? 1 : 0;
      default: return NONE;
    }
  }

  private int amountOf(long o) {
    switch (kindOf(o)) {
      case INTEGER: case FIXED: case BOOLEAN: return valueOf(o);
      case NAME: return machine.names.lengthOfName(valueOf(o));
      case STRING: case ROW: return lengthOf(o);
      case DICT: return machine.memory.pairs[bodyOf(o)];
      default: return 0;
    }
  }

  // ---- Objects in longs

  private static int kindOf(long o) {
    return (int) (o >>> KIND_SHIFT);
  }

  private static boolean isExecutable(long o) {
    return (o & EXECUTABLE) != 0;
  }

  private static int valueOf(long o) {
    return (int) o;
  }

  private static int bodyOf(long o) {
    return (int) (o >>> BODY_SHIFT) & BODY_BITS;
  }

  private static int placeOf(long o) {
    return (int) (o >>> PLACE_SHIFT) & PLACE_BITS;
  }

  private static int lengthOf(long o) {
    return (int) o & PLACE_BITS;
  }

  private static long thing(int kind, int value) {
    return (long) kind << KIND_SHIFT | (value & VALUE_BITS);
  }

  private static long integer(int n) {
    return (long) INTEGER << KIND_SHIFT | (n & VALUE_BITS);
  }

  private static long fixed(long v) {
    return (long) FIXED << KIND_SHIFT | (v & VALUE_BITS);
  }

  private static long truth(boolean b) {
    return b ? TRUE_THING : FALSE_THING;
  }

  private static long literal(long o) {
    return o & ~EXECUTABLE;
  }

  /** The part of a row or string from a place on: it is literal or executable as the whole. */
  private static long slice(long o, int from, int length) {
    return o & ~SLICE_BITS | (long) (placeOf(o) + from) << PLACE_SHIFT | length;
  }

  private static boolean isNumber(long o) {
    return kindOf(o) <= FIXED;
  }

  private static boolean isProcedure(long o) {
    return kindOf(o) == ROW && isExecutable(o);
  }

  private static boolean isKey(long o) {
    int kind = kindOf(o);
    return kind == INTEGER || kind == BOOLEAN || kind == NAME || kind == OPERATOR || kind == STRING;
  }

  private static boolean isComposite(long o) {
    int kind = kindOf(o);
    return kind >= STRING && kind <= DICT;
  }

  /** Arithmetic of FIXED, which are worked in longs: what is beyond an int is for the caller to refuse. */
  private static final class Fixed {
    static final long OUT = 1L << 63;
    static final long MATRIX_BOUND = 64L * ONE;

    static boolean fits(long v) {
      return v == (int) v;
    }

    /** A NUMBER as FIXED, or OUT. */
    static long of(long o) {
      int n = valueOf(o);
      if (kindOf(o) == FIXED) {
        return n;
      }
      return n < -32768 || n > 32767 ? OUT : (long) n * ONE;
    }

    /** A NUMBER's value in parts of 65536, without bounds. */
    static long scaled(long o) {
      return kindOf(o) == FIXED ? valueOf(o) : (long) valueOf(o) * ONE;
    }

    static long times(long a, long b) {
      return a * b >> 16;
    }

    /** a x + c y + t, rounded once. */
    static long sum(long a, long x, long c, long y, long t) {
      return (a * x + c * y >> 16) + t;
    }

    /** The FIXED of top / bottom, which have one scale; the quotient goes first lest the product leaves a long. */
    static long ratio(long top, long bottom) {
      if (bottom == 0) {
        return OUT;
      }
      long whole = Math.floorDiv(top, bottom);
      if (whole < -32768 || whole > 32767) {
        return OUT;
      }
      long rest = Math.floorMod(top, bottom);
      return whole * ONE + Math.floorDiv(rest << 16, bottom);
    }

    /** The greatest number whose square is not above n. */
    static long root(long n) {
      long root = 0;
      for (int bit = 31; bit >= 0; bit--) {
        long tried = root | 1L << bit;
        if (tried <= n / tried) {
          root = tried;
        }
      }
      return root;
    }

    /** The determinant, in parts of 65536 times 65536. */
    static long det(int[] m) {
      return (long) m[0] * m[3] - (long) m[1] * m[2];
    }

    static boolean isMatrixPart(long v) {
      return v >= -MATRIX_BOUND && v <= MATRIX_BOUND;
    }

    static void set(int[] m, long a, long b, long c, long d) {
      m[0] = (int) a;
      m[1] = (int) b;
      m[2] = (int) c;
      m[3] = (int) d;
    }

    /** first times second into a third one, which may be one of them; false, and nothing done, beyond the bounds. */
    static boolean product(int[] first, int[] second, int[] into) {
      long a = sum(first[0], second[0], first[1], second[2], 0);
      long b = sum(first[0], second[1], first[1], second[3], 0);
      long c = sum(first[2], second[0], first[3], second[2], 0);
      long d = sum(first[2], second[1], first[3], second[3], 0);
      long x = sum(first[4], second[0], first[5], second[2], second[4]);
      long y = sum(first[4], second[1], first[5], second[3], second[5]);
      return store(into, a, b, c, d, x, y);
    }

    static boolean store(int[] into, long a, long b, long c, long d, long x, long y) {
      if (!isMatrixPart(a) || !isMatrixPart(b) || !isMatrixPart(c) || !isMatrixPart(d) || !fits(x) || !fits(y)) {
        return false;
      }
      set(into, a, b, c, d);
      into[4] = (int) x;
      into[5] = (int) y;
      return true;
    }

    /** The place that a matrix makes of x, y, or the distance, into spot; false where it is beyond the bounds. */
    static boolean along(int[] m, long x, long y, boolean place, long[] spot) {
      spot[0] = sum(m[0], x, m[2], y, place ? m[4] : 0);
      spot[1] = sum(m[1], x, m[3], y, place ? m[5] : 0);
      return fits(spot[0]) && fits(spot[1]);
    }

    /** The way back of x, y (a place's less tx, ty), into spot: 0, RESULT or RANGE. */
    static int back(int[] m, long x, long y, long[] spot) {
      long det = det(m);
      if (det == 0) {
        return RESULT;
      }
      spot[0] = ratio(m[3] * x - m[2] * y, det);
      spot[1] = ratio(m[0] * y - m[1] * x, det);
      return spot[0] == OUT || spot[1] == OUT ? RANGE : 0;
    }
  }

  /** The names, each once; those that are there from the first on come first, the operators' by their numbers. */
  private static final class Names {
    static final int LONGEST = 30;
    private static final int MET_LIMIT = 1000, OWN_LIMIT = 200, TABLE = 4096;

    private final byte[] pool = new byte[(MET_LIMIT + OWN_LIMIT) * LONGEST];
    private final int[] startOf = new int[MET_LIMIT + OWN_LIMIT + 1];
    private final short[] table = new short[TABLE];
    // The table as it is while there are no other names.
    private final short[] ownTable;
    private int count;
    private final int own;

    Names() {
      byte[] word = new byte[LONGEST];
      addWords(STACK_WORDS, 2, word);
      addWords(NUMBER_WORDS, 2, word);
      addWords(OBJECT_WORDS, 2, word);
      addWords(ROW_WORDS, 2, word);
      addWords(DICT_WORDS, 2, word);
      addWords(TELL_WORDS, 2, word);
      addWords(CONTROL_WORDS, 2, word);
      addWords(STATE_WORDS, 2, word);
      addWords(MATRIX_WORDS, 2, word);
      addWords(PATH_WORDS, 2, word);
      addWords(INK_WORDS, 2, word);
      addWords(FONT_WORDS, 2, word);
      addWords(OTHER_WORDS, 1, word);
      own = count;
      ownTable = table.clone();
    }

    /** Every word, or every second one, becomes a name. */
    private void addWords(String words, int every, byte[] word) {
      int length = 0;
      int number = 0;
      for (int i = 0; i <= words.length(); i++) {
        if (i < words.length() && words.charAt(i) != ' ') {
          if (length < LONGEST) {
            word[length++] = (byte) words.charAt(i);
          }
          continue;
        }
        if (number % every == 0) {
          intern(word, 0, length);
        }
        number++;
        length = 0;
      }
    }

    void clear() {
      count = own;
      System.arraycopy(ownTable, 0, table, 0, TABLE);
    }

    int met() {
      return count - own;
    }

    /** The number of the name of these bytes, which may be a new one; NONE where no more may come. */
    int intern(byte[] source, int from, int length) {
      int hash = length;
      for (int i = 0; i < length; i++) {
        hash = hash * 31 + source[from + i];
      }
      int slot = (hash ^ hash >>> 12) & TABLE - 1;
      for (int i = 0; i < TABLE && table[slot] != 0; i++) {
        int id = table[slot] - 1;
        int at = startOf[id];
        int alike = 0;
        while (alike < length && at + alike < startOf[id + 1] && pool[at + alike] == source[from + alike]) {
          alike++;
        }
        if (alike == length && at + alike == startOf[id + 1]) {
          return id;
        }
        slot = (slot + 1) % TABLE;
      }
      boolean full = own > 0 ? count - own >= MET_LIMIT : count >= OWN_LIMIT;
      if (full || length > LONGEST) {
        return NONE;
      }
      System.arraycopy(source, from, pool, startOf[count], length);
      startOf[count + 1] = startOf[count] + length;
      table[slot] = (short) (count + 1);
      return count++;
    }

    int lengthOfName(int id) {
      return id < 0 || id >= count ? 0 : startOf[id + 1] - startOf[id];
    }

    int byteAt(int id, int i) {
      boolean there = id >= 0 && id < count && i >= 0 && i < startOf[id + 1] - startOf[id];
      return there ? pool[startOf[id] + i] & 0xFF : NONE;
    }
  }

  /** The bodies of strings, rows and dicts, one behind the other; and what the saves keep of them. */
  private static final class Memory {
    static final int USER = 0, FONTS = 1, OWN_BODIES = 2;
    static final int SAVES_LIMIT = 10;
    private static final int USER_PAIRS = 200, FONT_PAIRS = 20;
    private static final int ROOM_LIMIT = 12000, BODY_LIMIT = 3000 + OWN_BODIES;

    final long[] cells = new long[ROOM_LIMIT + 2 * USER_PAIRS + 2 * FONT_PAIRS];
    final byte[] bytes = new byte[4 * ROOM_LIMIT];
    // How much was taken before a body was made: its cells or bytes begin there, and what is dropped ends there.
    private final int[] cellsAt = new int[BODY_LIMIT];
    private final int[] bytesAt = new int[BODY_LIMIT];
    private final int[] roomAt = new int[BODY_LIMIT];
    final int[] sizes = new int[BODY_LIMIT];
    final int[] pairs = new int[BODY_LIMIT];
    int bodies;
    private int cellTop;
    private int byteTop;
    int room;

    // Of each live save; the two rows are made when a save needs them first, and used again.
    private final long[][] savedCells = new long[SAVES_LIMIT][];
    private final int[][] savedPairs = new int[SAVES_LIMIT][];
    final int[] savedBodies = new int[SAVES_LIMIT];
    final int[] savedLevel = new int[SAVES_LIMIT];
    private final int[] savedNumber = new int[SAVES_LIMIT];
    int live;
    private int saves;

    Memory() {
      clear();
    }

    void clear() {
      bodies = 0;
      cellTop = 0;
      byteTop = 0;
      live = 0;
      saves = 0;
      room = 0;
      make(DICT, USER_PAIRS);
      make(DICT, FONT_PAIRS);
      room = 0;
    }

    /** A new body, and the literal object that is the whole of it; NOTHING without room. */
    long make(int kind, int n) {
      int wanted = kind == STRING ? (n + 3) / 4 + 1 : kind == ROW ? n + 1 : 2 * n + 2;
      if (n < 0 || room + wanted > ROOM_LIMIT || bodies >= BODY_LIMIT) {
        return NOTHING;
      }
      int body = bodies++;
      cellsAt[body] = cellTop;
      bytesAt[body] = byteTop;
      roomAt[body] = room;
      sizes[body] = n;
      pairs[body] = 0;
      room += wanted;
      if (kind == STRING) {
        Arrays.fill(bytes, byteTop, byteTop + n, (byte) 0);
        byteTop += n;
      } else {
        int more = kind == DICT ? 2 * n : n;
        Arrays.fill(cells, cellTop, cellTop + more, NULL_THING);
        cellTop += more;
      }
      return (long) kind << KIND_SHIFT | (long) body << BODY_SHIFT | (kind == DICT ? 0 : n);
    }

    /** Only so many bodies stay, the first ones, and the others' room is free. */
    void dropTo(int left) {
      if (left >= OWN_BODIES && left < bodies) {
        cellTop = cellsAt[left];
        byteTop = bytesAt[left];
        room = roomAt[left];
        bodies = left;
      }
    }

    // These four are done in every step: they unpack by themselves.

    int cellPlace(long o) {
      return cellsAt[(int) (o >>> BODY_SHIFT) & BODY_BITS] + ((int) (o >>> PLACE_SHIFT) & PLACE_BITS);
    }

    int bytePlace(long o) {
      return bytesAt[(int) (o >>> BODY_SHIFT) & BODY_BITS] + ((int) (o >>> PLACE_SHIFT) & PLACE_BITS);
    }

    long cellOf(long row, int i) {
      int at = cellsAt[(int) (row >>> BODY_SHIFT) & BODY_BITS];
      return cells[at + ((int) (row >>> PLACE_SHIFT) & PLACE_BITS) + i];
    }

    int byteOf(long string, int i) {
      int at = bytesAt[(int) (string >>> BODY_SHIFT) & BODY_BITS];
      return bytes[at + ((int) (string >>> PLACE_SHIFT) & PLACE_BITS) + i] & 0xFF;
    }

    /** All of one row or string comes into another one from a place on; it is known to have room. */
    void move(long from, long into, int at) {
      if (kindOf(from) == ROW) {
        System.arraycopy(cells, cellPlace(from), cells, cellPlace(into) + at, lengthOf(from));
      } else {
        System.arraycopy(bytes, bytePlace(from), bytes, bytePlace(into) + at, lengthOf(from));
      }
    }

    /** The pair with that key, or NONE. */
    int find(int dict, long key) {
      int at = cellsAt[dict];
      for (int i = 0; i < pairs[dict]; i++) {
        if (cells[at + 2 * i] == key) {
          return i;
        }
      }
      return NONE;
    }

    long keyAt(int dict, int pair) {
      return cells[cellsAt[dict] + 2 * pair];
    }

    long valueAt(int dict, int pair) {
      return cells[cellsAt[dict] + 2 * pair + 1];
    }

    /** False where the key is new and the dict is full. */
    boolean put(int dict, long key, long value) {
      int pair = find(dict, key);
      if (pair == NONE) {
        if (pairs[dict] >= sizes[dict]) {
          return false;
        }
        pair = pairs[dict]++;
        cells[cellsAt[dict] + 2 * pair] = key;
      }
      cells[cellsAt[dict] + 2 * pair + 1] = value;
      return true;
    }

    void remove(int dict, int pair) {
      int at = cellsAt[dict] + 2 * pair;
      int behind = pairs[dict] - pair - 1;
      System.arraycopy(cells, at + 2, cells, at, 2 * behind);
      pairs[dict]--;
    }

    /** All pairs of one dict come into another one, which has none and is large enough. */
    void copyPairs(int from, int into) {
      System.arraycopy(cells, cellsAt[from], cells, cellsAt[into], 2 * pairs[from]);
      pairs[into] = pairs[from];
    }

    /** Keeps all rows and dicts; the caller knows that one more save may be live. */
    long save(int level) {
      int slot = live++;
      if (savedCells[slot] == null) {
        savedCells[slot] = new long[cells.length];
        savedPairs[slot] = new int[BODY_LIMIT];
      }
      System.arraycopy(cells, 0, savedCells[slot], 0, cellTop);
      System.arraycopy(pairs, 0, savedPairs[slot], 0, bodies);
      savedBodies[slot] = bodies;
      savedLevel[slot] = level;
      savedNumber[slot] = saves;
      return thing(SAVE, saves++);
    }

    /** The slot of a live save, or NONE. */
    int slotOf(long save) {
      for (int i = 0; i < live; i++) {
        if (savedNumber[i] == valueOf(save)) {
          return i;
        }
      }
      return NONE;
    }

    void giveBack(int slot) {
      if (savedCells[slot] != null && savedPairs[slot] != null) {
        dropTo(savedBodies[slot]);
        System.arraycopy(savedCells[slot], 0, cells, 0, cellTop);
        System.arraycopy(savedPairs[slot], 0, pairs, 0, bodies);
        live = slot;
      }
    }
  }

  /** Reads tokens of a text, or of a string of the memory. */
  private static final class Reader {
    static final int NO_TOKEN = -1;
    private static final int DEEPEST = 20, OBJECTS_LIMIT = 400, STRING_LIMIT = 400;
    // Five to the sixteenth: sixteen digits behind a point, divided by it, are the parts of 65536.
    private static final long FIVES = 152587890625L;
    private static final int REST_DIGITS = 16;
    // Far above every bound of a number: digits that follow can't bring it back.
    private static final long HUGE = 1L << 40;
    private static final String DIGITS = "0123456789abcdefghijklmnopqrstuvwxyz";

    private final Machine m;
    private byte[] source;
    int at;
    private int limit;
    long token;
    // The objects of the procedures that are still open, and where each of these begins.
    private final long[] pile = new long[(DEEPEST + 1) * OBJECTS_LIMIT];
    private final int[] openedAt = new int[DEEPEST];
    private int piled;
    private int depth;
    private final byte[] gathered = new byte[STRING_LIMIT];
    private int gatheredCount;

    Reader(Machine machine) {
      m = machine;
      source = machine.memory.bytes;
    }

    void aim(byte[] bytes, int from, int to) {
      source = bytes;
      at = from;
      limit = to;
    }

    /** Whether there is a token ahead; the place stays. */
    boolean hasMore() {
      int was = at;
      skip();
      boolean more = at < limit;
      at = was;
      return more;
    }

    private void skip() {
      boolean comment = false;
      for (; at < limit; at++) {
        int c = source[at];
        if (comment) {
          comment = c != '\n';
        } else if (c == '%') {
          comment = true;
        } else if (c != ' ' && c != '\n') {
          return;
        }
      }
    }

    /** The next token: 0, NO_TOKEN or an error; with an error no body stays that was made on the way. */
    int next() {
      skip();
      if (at >= limit) {
        return NO_TOKEN;
      }
      int before = m.memory.bodies;
      depth = 0;
      piled = 0;
      int error = 0;
      for (int left = limit - at; left >= 0; left--) {
        int first = at < limit ? source[at] : 0;
        boolean twice = at + 1 < limit && source[at + 1] == first;
        token = NOTHING;
        switch (first) {
          case '{': error = openProcedure(); break;
          case '}': error = closeProcedure(); break;
          case '(': error = readString(); break;
          case '<': error = twice ? readSign(2) : readHex(); break;
          case '>': error = twice ? readSign(2) : SYNTAX; break;
          case '[': case ']': error = readSign(1); break;
          case '/': error = readSlash(twice); break;
          default: error = readWord(); break;
        }
        if (error == 0 && depth > 0 && token != NOTHING) {
          error = addToPile();
        }
        if (error != 0 || depth == 0) {
          break;
        }
        skip();
      }
      if (error != 0) {
        m.memory.dropTo(before);
      }
      return error;
    }

    private int addToPile() {
      if (piled - openedAt[depth - 1] >= OBJECTS_LIMIT || piled >= pile.length) {
        return LIMIT;
      }
      pile[piled++] = token;
      return 0;
    }

    private int openProcedure() {
      if (depth >= DEEPEST) {
        return LIMIT;
      }
      openedAt[depth++] = piled;
      at++;
      return 0;
    }

    private int closeProcedure() {
      if (depth == 0) {
        return SYNTAX;
      }
      int from = openedAt[--depth];
      long row = m.memory.make(ROW, piled - from);
      if (row == NOTHING) {
        return VM;
      }
      System.arraycopy(pile, from, m.memory.cells, m.memory.cellPlace(row), piled - from);
      piled = from;
      token = row | EXECUTABLE;
      at++;
      return 0;
    }

    private int readSign(int length) {
      at += length;
      return nameToken(at - length, EXECUTABLE);
    }

    /** The bytes from there up to the place are a name. */
    private int nameToken(int from, long executable) {
      int id = at - from > Names.LONGEST ? NONE : m.names.intern(source, from, at - from);
      if (id == NONE) {
        return LIMIT;
      }
      token = thing(NAME, id) | executable;
      return 0;
    }

    private int readSlash(boolean twice) {
      at += twice ? 2 : 1;
      int from = at;
      passRegular();
      if (at == from) {
        return SYNTAX;
      }
      int error = nameToken(from, 0);
      if (error == 0 && twice) {
        token = m.lookUp(token);
        error = token == NOTHING ? UNDEFINED : 0;
      }
      return error;
    }

    private int readWord() {
      int from = at;
      passRegular();
      if (at == from) {
        return SYNTAX;
      }
      int form = readRadix(from, at);
      if (form == NONE) {
        form = readDecimal(from, at);
      }
      return form == NONE ? nameToken(from, EXECUTABLE) : form;
    }

    private void passRegular() {
      while (at < limit && source[at] > ' ' && source[at] < 127 && "()<>[]{}/%".indexOf((char) source[at]) < 0) {
        at++;
      }
    }

    /** The number that is all there is but blanks: 0, RANGE, or NONE where there is no such. */
    int readOnlyNumber() {
      skip();
      int from = at;
      passRegular();
      int to = at;
      if (from == to || hasMore()) {
        return NONE;
      }
      int form = readRadix(from, to);
      return form == NONE ? readDecimal(from, to) : form;
    }

    private int readRadix(int from, int to) {
      int i = from;
      int base = 0;
      while (i < to && i < from + 2 && source[i] >= '0' && source[i] <= '9') {
        base = base * 10 + source[i] - '0';
        i++;
      }
      if (base < 2 || base > 36 || i + 1 >= to || source[i] != '#') {
        return NONE;
      }
      long value = 0;
      for (i++; i < to; i++) {
        int digit = digitOf(source[i]);
        if (digit < 0 || digit >= base) {
          return NONE;
        }
        value = Math.min(HUGE, value * base + digit);
      }
      token = integer((int) value);
      return value > VALUE_BITS ? RANGE : 0;
    }

    private static int digitOf(int c) {
      return c >= 'A' && c <= 'Z' ? c - 'A' + 10 : c > 0 ? DIGITS.indexOf((char) c) : NONE;
    }

    private int readDecimal(int from, int to) {
      boolean minus = source[from] == '-';
      boolean point = false;
      boolean tail = false;
      int digits = 0;
      int behind = 0;
      long whole = 0;
      long rest = 0;
      for (int i = minus || source[from] == '+' ? from + 1 : from; i < to; i++) {
        int digit = source[i] - '0';
        if (source[i] == '.' && !point) {
          point = true;
          continue;
        }
        if (digit < 0 || digit > 9) {
          return NONE;
        }
        digits++;
        if (!point) {
          whole = Math.min(HUGE, whole * 10 + digit);
        } else if (behind < REST_DIGITS) {
          rest = rest * 10 + digit;
          behind++;
        } else {
          tail = tail || digit != 0;
        }
      }
      if (digits == 0) {
        return NONE;
      }
      for (; behind < REST_DIGITS; behind++) {
        rest *= 10;
      }
      long value = point ? whole * ONE + rest / FIVES : whole;
      if (minus) {
        value = rest % FIVES != 0 || tail ? -value - 1 : -value;
      }
      token = thing(point ? FIXED : INTEGER, (int) value);
      return Fixed.fits(value) ? 0 : RANGE;
    }

    private int readString() {
      gatheredCount = 0;
      int open = 0;
      for (; at < limit; at++) {
        int c = source[at];
        if (c == '\\') {
          readEscape();
          continue;
        }
        if (c == ')' && --open == 0) {
          at++;
          return finishString();
        }
        if (c != '(' || open++ > 0) {
          gather(c);
        }
      }
      return SYNTAX;
    }

    /** What stands behind a backslash; the place is then at its last byte. */
    private void readEscape() {
      at++;
      int c = at < limit ? source[at] : '\n';
      if (c >= '0' && c <= '7') {
        int value = 0;
        int from = at;
        while (at < limit && at < from + 3 && source[at] >= '0' && source[at] <= '7') {
          value = value * 8 + source[at] - '0';
          at++;
        }
        at--;
        gather(value);
      } else if (c != '\n') {
        gather(c == 'n' ? '\n' : c == 't' ? '\t' : c);
      }
    }

    private int readHex() {
      gatheredCount = 0;
      int held = NONE;
      for (at++; at < limit; at++) {
        int c = source[at];
        if (c == '>') {
          if (held != NONE) {
            gather(held * 16);
          }
          at++;
          return finishString();
        }
        int digit = digitOf(c);
        if (digit >= 0 && digit < 16) {
          if (held != NONE) {
            gather(held * 16 + digit);
          }
          held = held == NONE ? digit : NONE;
        } else if (c != ' ' && c != '\n') {
          return SYNTAX;
        }
      }
      return SYNTAX;
    }

    /** Bytes beyond the limit are counted alone: the string is refused at its end. */
    private void gather(int c) {
      if (gatheredCount < STRING_LIMIT) {
        gathered[gatheredCount] = (byte) c;
      }
      gatheredCount++;
    }

    private int finishString() {
      if (gatheredCount > STRING_LIMIT) {
        return LIMIT;
      }
      token = m.memory.make(STRING, gatheredCount);
      if (token == NOTHING) {
        return VM;
      }
      System.arraycopy(gathered, 0, m.memory.bytes, m.memory.bytePlace(token), gatheredCount);
      return 0;
    }
  }

  /** One thing under way; each sort uses the fields that it needs. */
  private static final class Frame {
    static final int TEXT = 0, PROCEDURE = 1, TEXT_STRING = 2, STOPPED = 3;
    // The rounds; all sorts up to that of pathforall can be left by exit.
    static final int REPEAT = 4, LOOP = 5, FOR = 6, FORALL = 7, PATHFORALL = 8, SIGNS = 9, PICTURE = 10;

    int sort;
    int op;
    // What is gone through (a procedure, a string, forall's collection, show's string), how far, and how much there is:
    // the text's bytes, the path's parts, the bytes that an image wants; of a sign its byte, of for the values' kind.
    long source;
    int at;
    int amount;
    final long[] procedures = new long[4];
    // for: the next value, the step, the end; repeat: the turns that are left; pathforall: the places that were given;
    // ashow and widthshow: the byte, and the distance behind it.
    long value;
    long by;
    long to;
    // pathforall's path, made when it is first needed.
    byte[] kinds;
    int[] places;
    // A sign or an image's procedure is not through; kshow's procedure was done ahead of the next sign.
    boolean busy;
    boolean between;
    // How many graphics were kept, and saves live, ahead of the sign (of stringwidth: of all its signs).
    int level;
    int live;
    // The sign's width, and the sum of stringwidth.
    final long[] widths = new long[4];
    // The font's matrix of a sign; the image's, and the graphics' one when it began.
    final int[] matrix = new int[6];
    final int[] pageMatrix = new int[6];
    // The image's columns, rows, bits, grey and which samples are painted (2: all); its bytes.
    final int[] picture = new int[5];
    byte[] samples;

    void begin(int newSort, int newOp) {
      sort = newSort;
      op = newOp;
      source = NULL_THING;
      at = 0;
      amount = 0;
      Arrays.fill(procedures, NULL_THING);
      busy = false;
      between = false;
    }

    /** Of pathforall: the path as it is, with places that are worked already. */
    void copyPath(Drawing d, int[] worked) {
      if (kinds == null || places == null) {
        kinds = new byte[d.kinds.length];
        places = new int[d.places.length];
      }
      System.arraycopy(d.kinds, 0, kinds, 0, d.parts);
      System.arraycopy(worked, 0, places, 0, 2 * d.points);
      amount = d.parts;
      value = 0;
    }

    /** What pathforall's next turn is of. */
    int kindAt() {
      return kinds == null || at >= amount ? Drawing.CLOSE : kinds[at];
    }

    boolean isSign() {
      return sort == SIGNS && (busy || op == OP_STRINGWIDTH);
    }

    /** Where the graphics are that the present sign kept: stringwidth keeps some ahead of its signs. */
    int signLevel() {
      return op == OP_STRINGWIDTH ? level + 1 : level;
    }

    /** Whether a round that needs no settling has no more turns. */
    boolean isOver(Memory memory) {
      switch (sort) {
        case REPEAT: return value <= 0;
        case FOR: return !Fixed.fits(value) || (by >= 0 ? value > to : value < to);
        case FORALL: return at >= (kindOf(source) == DICT ? memory.pairs[bodyOf(source)] : lengthOf(source));
        case PATHFORALL: return at >= amount;
        default: return false;
      }
    }

    /** Whether it uses a body that was made when there were so many. */
    boolean usesSince(int bodies) {
      boolean uses = isComposite(source) && bodyOf(source) >= bodies;
      for (long p : procedures) {
        uses = uses || (isComposite(p) && bodyOf(p) >= bodies);
      }
      return uses;
    }
  }

  /** The graphics: one is in use, others are kept. */
  private static final class Drawing {
    static final int MOVE = 0, LINE = 1, CURVE = 2, CLOSE = 3;
    static final int BY_GSAVE = 0, BY_SAVE = 1, BY_SIGN = 2;
    static final int POINTS_LIMIT = 300;
    static final long PLACE_BOUND = 2000L * ONE;

    final int[] matrix = new int[6];
    final byte[] kinds = new byte[2 * POINTS_LIMIT];
    final int[] places = new int[2 * POINTS_LIMIT];
    int parts;
    int points;
    int moveX;
    int moveY;
    int lastX;
    int lastY;
    final int[] clip = new int[Page.AREA];
    final int[] dots = new int[16];
    int grey;
    int width;
    int ends;
    int join;
    int miter;
    long font;
    int keptBy;

    static int pointsOf(int kind) {
      return kind == CLOSE ? 0 : kind == CURVE ? 3 : 1;
    }

    static boolean isPlace(long v) {
      return v >= -PLACE_BOUND && v <= PLACE_BOUND;
    }

    void initialize(int[] all) {
      initMatrix();
      clearPath();
      System.arraycopy(all, 0, clip, 0, clip.length);
      grey = 0;
      width = ONE;
      ends = 0;
      join = 0;
      miter = 10 * ONE;
    }

    void initMatrix() {
      Fixed.set(matrix, ONE, 0, 0, ONE);
      matrix[4] = 0;
      matrix[5] = 0;
    }

    void copyFrom(Drawing other) {
      System.arraycopy(other.matrix, 0, matrix, 0, matrix.length);
      System.arraycopy(other.kinds, 0, kinds, 0, other.parts);
      System.arraycopy(other.places, 0, places, 0, 2 * other.points);
      System.arraycopy(other.clip, 0, clip, 0, clip.length);
      System.arraycopy(other.dots, 0, dots, 0, dots.length);
      parts = other.parts;
      points = other.points;
      moveX = other.moveX;
      moveY = other.moveY;
      lastX = other.lastX;
      lastY = other.lastY;
      grey = other.grey;
      width = other.width;
      ends = other.ends;
      join = other.join;
      miter = other.miter;
      font = other.font;
    }

    void clearPath() {
      parts = 0;
      points = 0;
    }

    private boolean endsWith(int kind) {
      return parts > 0 && kinds[parts - 1] == kind;
    }

    private void append(int kind, int x, int y) {
      kinds[parts++] = (byte) kind;
      appendPlace(x, y);
    }

    private void appendPlace(int x, int y) {
      places[2 * points] = x;
      places[2 * points + 1] = y;
      points++;
      lastX = x;
      lastY = y;
    }

    /** False, and nothing done, where too many points would be there; so the next two. */
    boolean moveTo(int x, int y) {
      if (endsWith(MOVE)) {
        parts--;
        points--;
      }
      if (points >= POINTS_LIMIT) {
        return false;
      }
      append(MOVE, x, y);
      moveX = x;
      moveY = y;
      return true;
    }

    boolean lineTo(int x, int y) {
      if (!openFor(1)) {
        return false;
      }
      append(LINE, x, y);
      return true;
    }

    boolean curveTo(int[] spots) {
      if (!openFor(3)) {
        return false;
      }
      append(CURVE, spots[0], spots[1]);
      appendPlace(spots[2], spots[3]);
      appendPlace(spots[4], spots[5]);
      return true;
    }

    /** What comes behind a CLOSE has a MOVE ahead of it; false where the points are too many. */
    private boolean openFor(int more) {
      boolean closed = endsWith(CLOSE);
      if (points + more + (closed ? 1 : 0) > POINTS_LIMIT) {
        return false;
      }
      if (closed) {
        append(MOVE, lastX, lastY);
      }
      return true;
    }

    void close() {
      if (parts > 0 && parts < kinds.length && !endsWith(CLOSE)) {
        kinds[parts++] = CLOSE;
        lastX = moveX;
        lastY = moveY;
      }
    }
  }

  /** The page: its bits, what is inside of paths and strokes, and the pages that are out. */
  private static final class Page {
    static final int WORDS = 3;
    static final int AREA = WORDS * GREATEST_SIDE;
    static final int SHEETS_KEPT = 4;
    private static final int HALF_PIXEL = ONE / 2;
    private static final int CURVE_LINES = 8;
    private static final int FLAT_POINTS = CURVE_LINES * Drawing.POINTS_LIMIT / 3 + 8;
    private static final int COLUMNS = GREATEST_SIDE + 1;
    private static final int[] CIRCLE = {65536, 60547, 46341, 25080, 0, -25080, -46341, -60547, -65536, -60547,
        -46341, -25080, 0, 25080, 46341, 60547};
    // The rows of the edges of a stroke.
    private static final int PX = 0, PY = 1, QX = 2, QY = 3, DX = 4, DY = 5;

    final int width;
    final int height;
    final int[] all = new int[AREA];
    final int[] bits = new int[AREA];
    final int[] mask = new int[AREA];
    private final int[][] sheets = new int[SHEETS_KEPT][AREA];
    int sheetsOut;
    // How much the windings change from pixel to pixel, and the rows that have any.
    private final int[] changes = new int[GREATEST_SIDE * COLUMNS];
    private int lowRow = GREATEST_SIDE;
    private int highRow = -1;
    // The path, flat.
    final byte[] flatKinds = new byte[FLAT_POINTS + Drawing.POINTS_LIMIT];
    final int[] flatX = new int[FLAT_POINTS];
    final int[] flatY = new int[FLAT_POINTS];
    int flatParts;
    int flatPoints;
    // Of a stroke: the edges of one part of the path, and the corners of one figure.
    private final long[][] edges = new long[6][FLAT_POINTS + 1];
    private int edgeCount;
    private final long[] cornerPlaces = new long[2 * CIRCLE.length];
    private int corners;
    private long half;

    Page(int pageWidth, int pageHeight) {
      width = pageWidth;
      height = pageHeight;
      for (int i = 0; i < height * WORDS; i++) {
        int left = width - i % WORDS * 32;
        all[i] = left >= 32 ? -1 : left <= 0 ? 0 : -1 << 32 - left;
      }
    }

    void clear() {
      erase();
      sheetsOut = 0;
    }

    void erase() {
      Arrays.fill(bits, 0);
    }

    static int ones(int[] words) {
      int sum = 0;
      for (int word : words) {
        sum += Integer.bitCount(word);
      }
      return sum;
    }

    static boolean bitAt(int[] words, int x, int y) {
      return (words[y * WORDS + (x >> 5)] >> 31 - (x & 31) & 1) != 0;
    }

    /** The present page's bits (-1), those of a page that is out and kept, or null. */
    int[] sheet(int k) {
      if (k == NONE) {
        return bits;
      }
      return k < 0 || k >= SHEETS_KEPT || k >= sheetsOut ? null : sheets[k];
    }

    void bringOut() {
      if (sheetsOut < SHEETS_KEPT) {
        System.arraycopy(bits, 0, sheets[sheetsOut], 0, AREA);
      }
      sheetsOut++;
    }

    /** Makes the flat path, and answers how many edges it has. */
    int flatten(Drawing d) {
      flatParts = 0;
      flatPoints = 0;
      int found = 0;
      int at = 0;
      for (int i = 0; i < d.parts; i++) {
        int kind = d.kinds[i];
        if (kind == Drawing.CURVE) {
          flattenCurve(d.places, 2 * at - 2);
          found += CURVE_LINES;
        } else if (kind == Drawing.CLOSE) {
          flatKinds[flatParts++] = Drawing.CLOSE;
        } else {
          addFlat(kind, d.places[2 * at], d.places[2 * at + 1]);
          found++;
        }
        at += Drawing.pointsOf(kind);
      }
      return found;
    }

    private void addFlat(int kind, int x, int y) {
      flatKinds[flatParts++] = (byte) kind;
      flatX[flatPoints] = x;
      flatY[flatPoints] = y;
      flatPoints++;
    }

    /** A curve stands behind a place always: that is the first of the four from there on. */
    private void flattenCurve(int[] places, int from) {
      for (int k = 1; k <= CURVE_LINES && from >= 0; k++) {
        addFlat(Drawing.LINE, onCurve(places, from, k), onCurve(places, from + 1, k));
      }
    }

    private static int onCurve(int[] places, int from, long k) {
      long j = CURVE_LINES - k;
      long sum = j * j * j * places[from] + 3 * j * j * k * places[from + 2] + 3 * j * k * k * places[from + 4]
          + k * k * k * places[from + 6];
      return (int) (sum >> 9);
    }

    /** The mask becomes what is inside of the flat path. */
    void maskPath(boolean evenOdd) {
      Arrays.fill(mask, 0);
      int moved = 0;
      int at = 0;
      for (int i = 0; i < flatParts; i++) {
        if (flatKinds[i] == Drawing.LINE && at > 0) {
          addEdge(flatX[at - 1], flatY[at - 1], flatX[at], flatY[at]);
        } else if (flatKinds[i] == Drawing.MOVE) {
          addBack(at - 1, moved);
          moved = at;
        }
        if (flatKinds[i] != Drawing.CLOSE) {
          at++;
        }
      }
      addBack(at - 1, moved);
      sweep(evenOdd);
    }

    private void addBack(int last, int moved) {
      if (last >= moved) {
        addEdge(flatX[last], flatY[last], flatX[moved], flatY[moved]);
      }
    }

    /**
     * Notes for each row whose middle the edge passes that all pixels up to it, from the left, wind by one more. What
     * the figure is at that height is rounded down, which no whole pixel's middle can tell from the exact value; the
     * product is taken in two halves lest it leaves a long.
     */
    private void addEdge(long x0, long y0, long x1, long y1) {
      if (y0 == y1) {
        return;
      }
      boolean up = y0 < y1;
      long lowX = up ? x0 : x1;
      long lowY = up ? y0 : y1;
      long rise = up ? y1 - y0 : y0 - y1;
      long slope = Math.floorDiv(up ? x1 - x0 : x0 - x1, rise);
      long rest = Math.floorMod(up ? x1 - x0 : x0 - x1, rise);
      int first = (int) Math.max(0, lowY + HALF_PIXEL - 1 >> 16);
      int last = (int) Math.min(height - 1, lowY + rise - HALF_PIXEL - 1 >> 16);
      for (int row = first; row <= last; row++) {
        long above = (long) row * ONE + HALF_PIXEL - lowY;
        long high = rest * (above >> 20);
        long low = (high % rise << 20) + rest * (above & 0xFFFFF);
        long x = lowX + slope * above + (high / rise << 20) + low / rise;
        int column = (int) Math.min(width - 1, x - HALF_PIXEL >> 16);
        if (column >= 0) {
          changes[row * COLUMNS] += up ? 1 : -1;
          changes[row * COLUMNS + column + 1] -= up ? 1 : -1;
        }
      }
      if (first <= last) {
        lowRow = Math.min(lowRow, first);
        highRow = Math.max(highRow, last);
      }
    }

    /** Brings the windings into the mask, and leaves none. How many edges were met is odd as their sum is. */
    private void sweep(boolean evenOdd) {
      for (int y = lowRow; y <= highRow; y++) {
        int sum = 0;
        for (int x = 0; x < width; x++) {
          sum += changes[y * COLUMNS + x];
          if (evenOdd ? (sum & 1) != 0 : sum != 0) {
            mask[y * WORDS + (x >> 5)] |= 1 << 31 - (x & 31);
          }
        }
        Arrays.fill(changes, y * COLUMNS, (y + 1) * COLUMNS, 0);
      }
      lowRow = GREATEST_SIDE;
      highRow = -1;
    }

    /** What of the mask is in the clip gets the grey. */
    void paintMask(Drawing d) {
      for (int y = 0; y < height; y++) {
        int ink = inkOfRow(d, y);
        for (int i = y * WORDS; i < (y + 1) * WORDS; i++) {
          int painted = mask[i] & d.clip[i];
          bits[i] = bits[i] & ~painted | ink & painted;
        }
      }
    }

    /** Where a row is 1 under the grey: the dots come again every four pixels, so eight times in a word. */
    private static int inkOfRow(Drawing d, int y) {
      int ink = 0;
      for (int x = 0; x < 4; x++) {
        if (16 * d.grey >> 16 <= d.dots[x + 4 * (y & 3)]) {
          ink |= 0x88888888 >>> x;
        }
      }
      return ink;
    }

    void clipToMask(Drawing d) {
      for (int i = 0; i < AREA; i++) {
        d.clip[i] &= mask[i];
      }
    }

    /** Paints an image that is through. */
    void paintPicture(Frame f, Drawing d, long[] spot) {
      for (int y = 0; y < height; y++) {
        for (int x = 0; x < width; x++) {
          int sample = bitAt(d.clip, x, y) ? sampleAt(f, x, y, spot) : NONE;
          if (sample != NONE && (f.picture[4] == 2 || f.picture[4] == sample)) {
            long grey = f.picture[4] == 2 ? (long) sample * ONE / ((1 << f.picture[2]) - 1) : f.picture[3];
            int bit = 1 << 31 - (x & 31);
            boolean dark = 16 * grey >> 16 <= d.dots[(x & 3) + 4 * (y & 3)];
            int word = y * WORDS + (x >> 5);
            bits[word] = dark ? bits[word] | bit : bits[word] & ~bit;
          }
        }
      }
    }

    /** The sample that a pixel's middle falls on, or NONE. */
    private static int sampleAt(Frame f, int x, int y, long[] spot) {
      int[] m = f.pageMatrix;
      long middleX = (long) x * ONE + HALF_PIXEL - m[4];
      long middleY = (long) y * ONE + HALF_PIXEL - m[5];
      if (Fixed.back(m, middleX, middleY, spot) != 0) {
        return NONE;
      }
      long u = Fixed.sum(f.matrix[0], spot[0], f.matrix[2], spot[1], f.matrix[4]) >> 16;
      long v = Fixed.sum(f.matrix[1], spot[0], f.matrix[3], spot[1], f.matrix[5]) >> 16;
      int bitsEach = f.picture[2];
      if (u < 0 || u >= f.picture[0] || v < 0 || v >= f.picture[1] || f.samples == null) {
        return NONE;
      }
      int bitPlace = (int) u * bitsEach;
      int at = (int) v * ((f.picture[0] * bitsEach + 7) / 8) + bitPlace / 8;
      if (at >= f.at) {
        return NONE;
      }
      return (f.samples[at] & 0xFF) >> 8 - bitsEach - bitPlace % 8 & (1 << bitsEach) - 1;
    }

    /** The mask becomes what the stroke of the flat path paints. */
    void maskStroke(Drawing d) {
      Arrays.fill(mask, 0);
      long det = Fixed.det(d.matrix);
      long wide = Fixed.times(d.width, Fixed.root(det < 0 ? -det : det)) >> 1;
      half = Math.max(ONE / 4, Math.min(200L * ONE, wide));
      int at = 0;
      int i = 0;
      while (i < flatParts) {
        int moved = at++;
        boolean closed = false;
        edgeCount = 0;
        int from = i++;
        for (; i < flatParts && flatKinds[i] != Drawing.MOVE; i++) {
          closed = flatKinds[i] == Drawing.CLOSE;
          addStrokeEdge(at - 1, closed ? moved : at);
          at += closed ? 0 : 1;
        }
        if (edgeCount > 0) {
          strokePart(d, closed);
        } else if (i > from + 1 && d.ends == 1) {
          disc(flatX[moved], flatY[moved]);
          figure();
        }
      }
    }

    /** An edge between two places of the flat path, if it has a length. */
    private void addStrokeEdge(int from, int to) {
      long dx = (long) flatX[to] - flatX[from];
      long dy = (long) flatY[to] - flatY[from];
      if (dx == 0 && dy == 0) {
        return;
      }
      long length = Math.max(1, Fixed.root(dx * dx + dy * dy));
      edges[PX][edgeCount] = flatX[from];
      edges[PY][edgeCount] = flatY[from];
      edges[QX][edgeCount] = flatX[to];
      edges[QY][edgeCount] = flatY[to];
      edges[DX][edgeCount] = Math.floorDiv(dx * half, length);
      edges[DY][edgeCount] = Math.floorDiv(dy * half, length);
      edgeCount++;
    }

    private void strokePart(Drawing d, boolean closed) {
      int last = edgeCount - 1;
      boolean longer = !closed && d.ends == 2;
      for (int i = 0; i <= last; i++) {
        side(i, longer && i == 0, longer && i == last);
        figure();
      }
      for (int i = closed ? 0 : 1; i <= last; i++) {
        int ahead = i > 0 ? i - 1 : last;
        if (d.join == 1) {
          disc(edges[PX][i], edges[PY][i]);
          figure();
          continue;
        }
        wedge(ahead, i, 1);
        figure();
        wedge(ahead, i, -1);
        figure();
        if (d.join == 0 && mitre(ahead, i, d.miter)) {
          figure();
        }
      }
      if (!closed && d.ends == 1) {
        disc(edges[PX][0], edges[PY][0]);
        figure();
        disc(edges[QX][last], edges[QY][last]);
        figure();
      }
    }

    private void corner(long x, long y) {
      if (corners < CIRCLE.length) {
        cornerPlaces[2 * corners] = x;
        cornerPlaces[2 * corners + 1] = y;
        corners++;
      }
    }

    /** The corners along an edge; it may be longer at its ends. */
    private void side(int i, boolean longerFirst, boolean longerLast) {
      long dx = edges[DX][i];
      long dy = edges[DY][i];
      long px = edges[PX][i] - (longerFirst ? dx : 0);
      long py = edges[PY][i] - (longerFirst ? dy : 0);
      long qx = edges[QX][i] + (longerLast ? dx : 0);
      long qy = edges[QY][i] + (longerLast ? dy : 0);
      corners = 0;
      corner(px - dy, py + dx);
      corner(px + dy, py - dx);
      corner(qx + dy, qy - dx);
      corner(qx - dy, qy + dx);
    }

    /** The corners of a join's triangle, on the side of the normals (1) or on the other one (-1). */
    private void wedge(int i, int j, int side) {
      long x = edges[PX][j];
      long y = edges[PY][j];
      corners = 0;
      corner(x, y);
      corner(x - side * edges[DY][i], y + side * edges[DX][i]);
      corner(x - side * edges[DY][j], y + side * edges[DX][j]);
    }

    /** The corners of a mitre, if the join has one. */
    private boolean mitre(int i, int j, long limit) {
      long dx = edges[DX][i];
      long dy = edges[DY][i];
      long nextX = edges[DX][j];
      long nextY = edges[DY][j];
      long u = dx * nextX + dy * nextY >> 16;
      long turn = dx * nextY - dy * nextX;
      long square = Math.max(1, Fixed.times(limit, limit));
      long least = Fixed.times(Fixed.times(Math.floorDiv(2L * ONE * ONE, square) - ONE, half), half);
      if (u < least || turn == 0) {
        return false;
      }
      long k = Fixed.times(half, half);
      long factor = Math.floorDiv(k * ONE, Math.max(1, k + u));
      int side = turn > 0 ? -1 : 1;
      long x = edges[PX][j];
      long y = edges[PY][j];
      corners = 0;
      corner(x, y);
      corner(x - side * dy, y + side * dx);
      corner(x + Fixed.times(-side * (dy + nextY), factor), y + Fixed.times(side * (dx + nextX), factor));
      corner(x - side * nextY, y + side * nextX);
      return true;
    }

    private void disc(long x, long y) {
      corners = 0;
      for (int k = 0; k < CIRCLE.length; k++) {
        corner(x + Fixed.times(half, CIRCLE[k]), y + Fixed.times(half, CIRCLE[(k + 12) % CIRCLE.length]));
      }
    }

    /** What is inside of the corners comes to the mask. */
    private void figure() {
      for (int i = 0; i < corners; i++) {
        int next = i + 1 < corners ? i + 1 : 0;
        addEdge(cornerPlaces[2 * i], cornerPlaces[2 * i + 1], cornerPlaces[2 * next], cornerPlaces[2 * next + 1]);
      }
      sweep(false);
    }
  }

  /** What all operators work on: the stacks, the graphics, what was printed, and the latest error. */
  private static final class Machine {
    static final int PRINTED_LIMIT = 4000, COUNTED_LIMIT = 2147483647;
    static final int OPERANDS_LIMIT = 200, OPEN_LIMIT = 20, UNDER_LIMIT = 100, KEPT_LIMIT = 20;
    // The system's dict stands at the bottom of those that are open; it has no body.
    private static final int SYSTEM = -1;
    private static final byte[] FIRST_DOTS = {0, 8, 2, 10, 12, 4, 14, 6, 3, 11, 1, 9, 15, 7, 13, 5};

    final Names names;
    final Memory memory;
    final Page page;
    private final long[] operands = new long[OPERANDS_LIMIT];
    int count;
    final int[] open = new int[OPEN_LIMIT];
    int opened;
    final Frame[] frames = new Frame[UNDER_LIMIT];
    int under;
    final Drawing now = new Drawing();
    final Drawing[] kept = new Drawing[KEPT_LIMIT];
    int keptCount;
    final byte[] printed = new byte[PRINTED_LIMIT];
    int printedCount;
    int steps;
    int error;
    int blamed;
    boolean failed;
    // The key that keyOf found last.
    long key;

    Machine(Names someNames, Memory someMemory, Page somePage) {
      names = someNames;
      memory = someMemory;
      page = somePage;
      for (int i = 0; i < UNDER_LIMIT; i++) {
        frames[i] = new Frame();
      }
      for (int i = 0; i < KEPT_LIMIT; i++) {
        kept[i] = new Drawing();
      }
      clear();
    }

    void clear() {
      names.clear();
      memory.clear();
      page.clear();
      count = 0;
      open[0] = SYSTEM;
      open[1] = Memory.USER;
      opened = 2;
      under = 0;
      keptCount = 0;
      now.initialize(page.all);
      now.font = NOTHING;
      for (int i = 0; i < FIRST_DOTS.length; i++) {
        now.dots[i] = FIRST_DOTS[i];
      }
      printedCount = 0;
      steps = 0;
      error = 0;
      blamed = NONE;
      failed = false;
    }

    // ---- Operands

    /** The k-th operand from the top, or NOTHING. */
    long peek(int k) {
      return k < 0 || k >= count ? NOTHING : operands[count - 1 - k];
    }

    /** Puts another object in the place of the k-th operand. */
    void poke(int k, long o) {
      if (k >= 0 && k < count) {
        operands[count - 1 - k] = o;
      }
    }

    void drop(int n) {
      count = Math.max(0, count - n);
    }

    boolean isCrowded(int more) {
      return count + more > OPERANDS_LIMIT;
    }

    int push(long o) {
      if (count >= OPERANDS_LIMIT) {
        return OVERFLOW;
      }
      operands[count++] = o;
      return 0;
    }

    /** One object in the place of the n uppermost ones, n being at least 1. */
    int answer(int n, long o) {
      drop(n);
      return push(o);
    }

    /** Two FIXED in the place of the n uppermost ones, n being at least 2. */
    int answerPair(int n, long x, long y) {
      drop(n);
      push(fixed(x));
      return push(fixed(y));
    }

    /** What a STOPPED gives: in a full row it takes the uppermost one's place. */
    void pushSurely(long o) {
      if (count >= OPERANDS_LIMIT) {
        count = OPERANDS_LIMIT - 1;
      }
      operands[count++] = o;
    }

    /** How many operands are above the latest mark, or NONE. */
    int aboveMark() {
      for (int k = 0; k < count; k++) {
        if (kindOf(operands[count - 1 - k]) == MARK) {
          return k;
        }
      }
      return NONE;
    }

    // ---- Dicts

    /** An object that is known to be fit for a key becomes the key: 0, or RANGE, LIMIT of a string's name. */
    int keyOf(long o) {
      key = literal(o);
      if (kindOf(o) != STRING) {
        return 0;
      }
      int length = lengthOf(o);
      if (length == 0 || length > Names.LONGEST) {
        return RANGE;
      }
      int id = names.intern(memory.bytes, memory.bytePlace(o), length);
      key = thing(NAME, id);
      return id == NONE ? LIMIT : 0;
    }

    int latestDict() {
      return open[opened - 1];
    }

    /** The latest opened dict that has the key, the system's left out, or NONE. */
    int dictWith(long sought) {
      for (int i = opened - 1; i > 0; i--) {
        if (memory.find(open[i], sought) != NONE) {
          return open[i];
        }
      }
      return NONE;
    }

    /** The key's value in the dicts that are open, or NOTHING. */
    long lookUp(long sought) {
      for (int i = opened - 1; i > 0; i--) {
        int pair = memory.find(open[i], sought);
        if (pair != NONE) {
          return memory.valueAt(open[i], pair);
        }
      }
      return kindOf(sought) == NAME ? systemValue(valueOf(sought)) : NOTHING;
    }

    /** Each operator is under its name, which has its number. */
    private static long systemValue(int name) {
      if (name < OPERATORS) {
        return (long) OPERATOR << KIND_SHIFT | EXECUTABLE | name;
      }
      switch (name) {
        case WORD_TRUE: return TRUE_THING;
        case WORD_FALSE: return FALSE_THING;
        case WORD_NULL: return NULL_THING;
        default: return NOTHING;
      }
    }

    static long dictOf(int body) {
      return (long) DICT << KIND_SHIFT | (long) body << BODY_SHIFT;
    }

    // ---- What is under way

    Frame lastFrame() {
      return under > 0 ? frames[under - 1] : null;
    }

    /** A new frame, or null where too many are there. */
    Frame enter(int sort, int op) {
      if (under >= UNDER_LIMIT) {
        return null;
      }
      Frame f = frames[under++];
      f.begin(sort, op);
      return f;
    }

    /** A procedure or executable string comes under way. */
    int enterThing(long o) {
      Frame f = enter(kindOf(o) == ROW ? Frame.PROCEDURE : Frame.TEXT_STRING, NONE);
      if (f == null) {
        return EXECFULL;
      }
      f.source = o;
      return 0;
    }

    /** The innermost sign that is not through, or null. */
    Frame innermostSign() {
      for (int i = under - 1; i >= 0; i--) {
        if (frames[i].sort == Frame.SIGNS && frames[i].busy) {
          return frames[i];
        }
      }
      return null;
    }

    /** Whether a stringwidth is under way: then nothing is painted. */
    boolean isMute() {
      for (int i = 0; i < under; i++) {
        if (frames[i].sort == Frame.SIGNS && frames[i].op == OP_STRINGWIDTH) {
          return true;
        }
      }
      return false;
    }

    // ---- Graphics

    /** The caller knows that there is room for one more. */
    void keep(int by) {
      if (keptCount < KEPT_LIMIT) {
        kept[keptCount].copyFrom(now);
        kept[keptCount].keptBy = by;
        keptCount++;
      }
    }

    /** The graphics become as they were kept at that level; it and those behind it go. */
    void backTo(int level) {
      if (level >= 0 && level < keptCount) {
        now.copyFrom(kept[level]);
        keptCount = level;
      }
    }

    // ---- Printing

    void print(byte[] bytes, int from, int length) {
      for (int i = 0; i < length && printedCount + i < PRINTED_LIMIT; i++) {
        printed[printedCount + i] = bytes[from + i];
      }
      printedCount = printedCount > COUNTED_LIMIT - length ? COUNTED_LIMIT : printedCount + length;
    }
  }

  /** The operators on the stack, numbers, objects, rows, strings and dicts, and those that tell. */
  private static final class DataOps {
    private static final int FULL_TEXT_LIMIT = 300, DEEPEST_ROW = 5;
    private static final int ARRAY_LIMIT = 1000, STRING_LIMIT = 500, DICT_LIMIT = 200;

    private final Machine m;
    private final Memory memory;
    private final Names names;
    private final Reader reader;
    private final long[] scratch = new long[Machine.OPERANDS_LIMIT];
    private final byte[] text = new byte[STRING_LIMIT + 100];
    private int textLength;
    private int textLimit;

    DataOps(Machine machine, Reader aReader) {
      m = machine;
      memory = machine.memory;
      names = machine.names;
      reader = aReader;
    }

    // ---- The stack

    int stackOps(int op) {
      switch (op) {
        case OP_POP: m.drop(1); return 0;
        case OP_EXCH: return exchange();
        case OP_DUP: return m.push(m.peek(0));
        case OP_COPY: return kindOf(m.peek(0)) == INTEGER ? copyMany() : copyInto();
        case OP_INDEX: return index();
        case OP_ROLL: return roll();
        case OP_CLEAR: m.drop(m.count); return 0;
        case OP_COUNT: return m.push(integer(m.count));
        case OP_CLEARTOMARK: return clearToMark();
        case OP_COUNTTOMARK: return countToMark();
        default: return m.push(MARK_THING);
      }
    }

    private int exchange() {
      long top = m.peek(0);
      m.poke(0, m.peek(1));
      m.poke(1, top);
      return 0;
    }

    private int copyMany() {
      int n = valueOf(m.peek(0));
      if (n < 0) {
        return RANGE;
      }
      if (n > m.count - 1) {
        return UNDERFLOW;
      }
      if (m.isCrowded(n - 1)) {
        return OVERFLOW;
      }
      m.drop(1);
      for (int i = 0; i < n; i++) {
        m.push(m.peek(n - 1));
      }
      return 0;
    }

    private int copyInto() {
      if (m.count < 2) {
        return UNDERFLOW;
      }
      long from = m.peek(1);
      long into = m.peek(0);
      if (!isComposite(into) || kindOf(from) != kindOf(into)) {
        return TYPE;
      }
      if (kindOf(into) == DICT) {
        return copyDict(bodyOf(from), bodyOf(into));
      }
      if (lengthOf(from) > lengthOf(into)) {
        return RANGE;
      }
      memory.move(from, into, 0);
      return m.answer(2, slice(into, 0, lengthOf(from)));
    }

    private int copyDict(int from, int into) {
      if (memory.pairs[into] > 0 || memory.sizes[into] < memory.pairs[from]) {
        return RANGE;
      }
      memory.copyPairs(from, into);
      return m.answer(2, m.peek(0));
    }

    private int index() {
      int n = valueOf(m.peek(0));
      if (n < 0) {
        return RANGE;
      }
      if (n >= m.count - 1) {
        return UNDERFLOW;
      }
      return m.answer(1, m.peek(n + 1));
    }

    private int roll() {
      int n = valueOf(m.peek(1));
      int j = valueOf(m.peek(0));
      if (n < 0) {
        return RANGE;
      }
      if (n > m.count - 2) {
        return UNDERFLOW;
      }
      m.drop(2);
      if (n == 0) {
        return 0;
      }
      int places = Math.floorMod(j, n);
      for (int k = 0; k < n && k < scratch.length; k++) {
        scratch[k] = m.peek(k);
      }
      for (int k = 0; k < n && k < scratch.length; k++) {
        m.poke(k, scratch[(k + places) % n]);
      }
      return 0;
    }

    private int clearToMark() {
      int above = m.aboveMark();
      if (above == NONE) {
        return NOMARK;
      }
      m.drop(above + 1);
      return 0;
    }

    private int countToMark() {
      int above = m.aboveMark();
      return above == NONE ? NOMARK : m.push(integer(above));
    }

    // ---- Numbers

    int numberOps(int op) {
      switch (op) {
        case OP_ADD: case OP_SUB: case OP_MUL: return combine(op);
        case OP_DIV: return divide();
        case OP_IDIV: case OP_MOD: return divideWhole(op);
        case OP_NEG: case OP_ABS: return turnSign(op);
        case OP_CEILING: case OP_FLOOR: case OP_ROUND: case OP_TRUNCATE: return toWhole(op);
        case OP_SQRT: return root();
        case OP_BITSHIFT: return shift();
        case OP_AND: case OP_OR: case OP_XOR: return combineBits(op);
        case OP_NOT: return negateBits();
        default: return convert(op);
      }
    }

    /** The number of that kind in the place of n operands, or RANGE. */
    private int answerNumber(int n, int kind, long value) {
      return Fixed.fits(value) ? m.answer(n, thing(kind, (int) value)) : RANGE;
    }

    private int combine(int op) {
      boolean whole = kindOf(m.peek(0)) == INTEGER && kindOf(m.peek(1)) == INTEGER;
      long x = whole ? valueOf(m.peek(1)) : Fixed.of(m.peek(1));
      long y = whole ? valueOf(m.peek(0)) : Fixed.of(m.peek(0));
      if (x == Fixed.OUT || y == Fixed.OUT) {
        return RANGE;
      }
      long value = op == OP_ADD ? x + y : op == OP_SUB ? x - y : whole ? x * y : Fixed.times(x, y);
      return answerNumber(2, whole ? INTEGER : FIXED, value);
    }

    private int divide() {
      long x = Fixed.of(m.peek(1));
      long y = Fixed.of(m.peek(0));
      if (x == Fixed.OUT || y == Fixed.OUT) {
        return RANGE;
      }
      return y == 0 ? RESULT : answerNumber(2, FIXED, Math.floorDiv(x * ONE, y));
    }

    private int divideWhole(int op) {
      long i = valueOf(m.peek(1));
      long j = valueOf(m.peek(0));
      if (j == 0) {
        return RESULT;
      }
      return answerNumber(2, INTEGER, op == OP_IDIV ? i / j : i % j);
    }

    private int turnSign(int op) {
      long o = m.peek(0);
      long value = valueOf(o);
      return answerNumber(1, kindOf(o), op == OP_NEG || value < 0 ? -value : value);
    }

    private int toWhole(int op) {
      long o = m.peek(0);
      if (kindOf(o) == INTEGER) {
        return 0;
      }
      long value = valueOf(o);
      boolean up = op == OP_CEILING || (op == OP_TRUNCATE && value < 0);
      long more = up ? ONE - 1 : op == OP_ROUND ? ONE / 2 : 0;
      return answerNumber(1, FIXED, (value + more >> 16) * ONE);
    }

    private int root() {
      long x = Fixed.of(m.peek(0));
      return x == Fixed.OUT || x < 0 ? RANGE : answerNumber(1, FIXED, Fixed.root(x * ONE));
    }

    private int shift() {
      int bits = valueOf(m.peek(1));
      int places = valueOf(m.peek(0));
      int value = places <= -32 || places >= 32 ? 0 : places >= 0 ? bits << places : bits >>> -places;
      return m.answer(2, integer(value));
    }

    private int combineBits(int op) {
      long first = m.peek(1);
      long second = m.peek(0);
      int kind = kindOf(first);
      if (kind != kindOf(second) || (kind != INTEGER && kind != BOOLEAN)) {
        return TYPE;
      }
      int a = valueOf(first);
      int b = valueOf(second);
      return m.answer(2, thing(kind, op == OP_AND ? a & b : op == OP_OR ? a | b : a ^ b));
    }

    private int negateBits() {
      long o = m.peek(0);
      if (kindOf(o) == BOOLEAN) {
        return m.answer(1, truth(valueOf(o) == 0));
      }
      return kindOf(o) == INTEGER ? m.answer(1, integer(~valueOf(o))) : TYPE;
    }

    /** cvi and cvr. */
    private int convert(int op) {
      long o = m.peek(0);
      if (kindOf(o) == STRING) {
        int from = memory.bytePlace(o);
        reader.aim(memory.bytes, from, from + lengthOf(o));
        int error = reader.readOnlyNumber();
        if (error != 0) {
          return error == NONE ? TYPE : error;
        }
        o = reader.token;
      }
      if (!isNumber(o)) {
        return TYPE;
      }
      if (op == OP_CVI) {
        return m.answer(1, kindOf(o) == INTEGER ? o : integer(valueOf(o) / ONE));
      }
      long value = Fixed.of(o);
      return value == Fixed.OUT ? RANGE : m.answer(1, fixed(value));
    }

    // ---- Comparing, and what objects are

    int objectOps(int op) {
      long o = m.peek(0);
      switch (op) {
        case OP_EQ: return m.answer(2, truth(isSame(m.peek(1), o)));
        case OP_NE: return m.answer(2, truth(!isSame(m.peek(1), o)));
        case OP_CVX: return m.answer(1, isBare(o) ? o : o | EXECUTABLE);
        case OP_CVL: return m.answer(1, literal(o));
        case OP_XCHECK: return m.answer(1, truth(isExecutable(o)));
        case OP_TYPE: return m.answer(1, thing(NAME, WORD_TYPES + kindOf(o)) | EXECUTABLE);
        case OP_CVN: return toName(o);
        case OP_CVS: return toText();
        default: return compare(op);
      }
    }

    /** Whether an object is literal always. */
    private static boolean isBare(long o) {
      int kind = kindOf(o);
      return kind != NAME && kind != OPERATOR && kind != STRING && kind != ROW;
    }

    private static boolean hasBytes(long o) {
      return kindOf(o) == STRING || kindOf(o) == NAME;
    }

    private int bytesOf(long o) {
      return kindOf(o) == NAME ? names.lengthOfName(valueOf(o)) : lengthOf(o);
    }

    private int byteOf(long o, int i) {
      return kindOf(o) == NAME ? names.byteAt(valueOf(o), i) : memory.byteOf(o, i);
    }

    private boolean isSame(long a, long b) {
      if (isNumber(a) && isNumber(b)) {
        return Fixed.scaled(a) == Fixed.scaled(b);
      }
      if (hasBytes(a) && hasBytes(b)) {
        return compareBytes(a, b) == 0;
      }
      return literal(a) == literal(b);
    }

    private int compareBytes(long a, long b) {
      int common = Math.min(bytesOf(a), bytesOf(b));
      for (int i = 0; i < common; i++) {
        int difference = byteOf(a, i) - byteOf(b, i);
        if (difference != 0) {
          return difference;
        }
      }
      return bytesOf(a) - bytesOf(b);
    }

    private int compare(int op) {
      long a = m.peek(1);
      long b = m.peek(0);
      int order;
      if (isNumber(a) && isNumber(b)) {
        order = Long.compare(Fixed.scaled(a), Fixed.scaled(b));
      } else if (kindOf(a) == STRING && kindOf(b) == STRING) {
        order = compareBytes(a, b);
      } else {
        return TYPE;
      }
      switch (op) {
        case OP_GT: return m.answer(2, truth(order > 0));
        case OP_GE: return m.answer(2, truth(order >= 0));
        case OP_LT: return m.answer(2, truth(order < 0));
        default: return m.answer(2, truth(order <= 0));
      }
    }

    private int toName(long o) {
      int error = m.keyOf(o);
      return error != 0 ? error : m.answer(1, m.key | (o & EXECUTABLE));
    }

    private int toText() {
      long into = m.peek(0);
      beginText(text.length);
      writeText(m.peek(1));
      if (textLength > lengthOf(into)) {
        return RANGE;
      }
      System.arraycopy(text, 0, memory.bytes, memory.bytePlace(into), textLength);
      return m.answer(2, slice(into, 0, textLength));
    }

    // ---- Texts of objects

    private void beginText(int limit) {
      textLength = 0;
      textLimit = limit;
    }

    private void write(int c) {
      if (textLength < textLimit) {
        text[textLength++] = (byte) c;
      }
    }

    private void writeWord(String word) {
      for (int i = 0; i < word.length(); i++) {
        write(word.charAt(i));
      }
    }

    private void writeBytes(long o) {
      int length = bytesOf(o);
      for (int i = 0; i < length; i++) {
        write(byteOf(o, i));
      }
    }

    /** The digits of a number that is not below 0, at least so many of them. */
    private void writeDigits(long n, int least) {
      long power = 1;
      int digits = 1;
      while (digits < 10 && (power * 10 <= n || digits < least)) {
        power *= 10;
        digits++;
      }
      for (; digits > 0; digits--) {
        write('0' + (int) (n / power % 10));
        power = Math.max(1, power / 10);
      }
    }

    private void writeFixed(long v) {
      if (v < 0) {
        write('-');
        v = -v;
      }
      writeDigits(v >> 16, 1);
      write('.');
      long rest = (v & ONE - 1) * 100000 >> 16;
      int digits = 5;
      while (digits > 1 && rest % 10 == 0) {
        rest /= 10;
        digits--;
      }
      writeDigits(rest, digits);
    }

    private void writeInteger(long n) {
      if (n < 0) {
        write('-');
      }
      writeDigits(n < 0 ? -n : n, 1);
    }

    private void writeText(long o) {
      switch (kindOf(o)) {
        case INTEGER: writeInteger(valueOf(o)); return;
        case FIXED: writeFixed(valueOf(o)); return;
        case BOOLEAN: writeWord(valueOf(o) != 0 ? "true" : "false"); return;
        case OPERATOR: writeBytes(thing(NAME, valueOf(o))); return;
        case NAME: case STRING: writeBytes(o); return;
        default: writeWord("--nostringval--");
      }
    }

    /** The text of == ; a row within too many others is not gone into. */
    private void writeFull(long o, int depth) {
      switch (kindOf(o)) {
        case NAME:
          if (!isExecutable(o)) {
            write('/');
          }
          writeBytes(o);
          return;
        case STRING: write('('); writeBytes(o); write(')'); return;
        case OPERATOR: writeWord("--"); writeText(o); writeWord("--"); return;
        case NULL: writeWord("-null-"); return;
        case MARK: writeWord("-mark-"); return;
        case SAVE: writeWord("-save-"); return;
        case DICT: writeWord("-dict-"); return;
        case ROW: break;
        default: writeText(o); return;
      }
      if (depth >= DEEPEST_ROW) {
        writeWord("...");
        return;
      }
      write(isExecutable(o) ? '{' : '[');
      for (int i = 0; i < lengthOf(o) && textLength < textLimit; i++) {
        write(' ');
        writeFull(memory.cellOf(o, i), depth + 1);
      }
      write(' ');
      write(isExecutable(o) ? '}' : ']');
    }

    int tellOps(int op) {
      long o = m.peek(0);
      if (op == OP_PRINT) {
        m.print(memory.bytes, memory.bytePlace(o), lengthOf(o));
        m.drop(1);
        return 0;
      }
      if (op == OP_TELL) {
        beginText(text.length - 1);
        writeText(o);
      } else {
        beginText(FULL_TEXT_LIMIT);
        writeFull(o, 0);
      }
      textLimit++;
      write('\n');
      m.print(text, 0, textLength);
      m.drop(1);
      return 0;
    }

    // ---- Rows, strings and dicts as such

    int rowOps(int op) {
      switch (op) {
        case OP_ARRAY: return makeNew(ROW, ARRAY_LIMIT);
        case OP_STRING: return makeNew(STRING, STRING_LIMIT);
        case OP_DICT: return makeNew(DICT, DICT_LIMIT);
        case OP_ROW_END: return rowFromMark();
        case OP_DICT_END: return dictFromMark();
        case OP_LENGTH: return length();
        case OP_MAXLENGTH: return m.answer(1, integer(memory.sizes[bodyOf(m.peek(0))]));
        case OP_GET: return get();
        case OP_PUT: return put();
        case OP_GETINTERVAL: return getInterval();
        case OP_PUTINTERVAL: return putInterval();
        case OP_ALOAD: return spread();
        case OP_ASTORE: return collect();
        case OP_SEARCH: return search();
        case OP_ANCHORSEARCH: return searchAtBeginning();
        default: return token();
      }
    }

    private int makeNew(int kind, int limit) {
      int n = valueOf(m.peek(0));
      if (n < 0 || n > limit) {
        return RANGE;
      }
      long made = memory.make(kind, n);
      return made == NOTHING ? VM : m.answer(1, made);
    }

    private int rowFromMark() {
      int n = m.aboveMark();
      if (n == NONE) {
        return NOMARK;
      }
      long row = memory.make(ROW, n);
      if (row == NOTHING) {
        return VM;
      }
      int at = memory.cellPlace(row);
      for (int i = 0; i < n; i++) {
        memory.cells[at + i] = m.peek(n - 1 - i);
      }
      return m.answer(n + 1, row);
    }

    private int dictFromMark() {
      int n = m.aboveMark();
      if (n == NONE) {
        return NOMARK;
      }
      if (n % 2 != 0) {
        return RANGE;
      }
      for (int k = 1; k < n; k += 2) {
        if (!isKey(m.peek(k))) {
          return TYPE;
        }
      }
      for (int i = 0; i < n && i < scratch.length; i += 2) {
        int error = m.keyOf(m.peek(n - 1 - i));
        if (error != 0) {
          return error;
        }
        scratch[i] = m.key;
      }
      long dict = memory.make(DICT, n / 2);
      if (dict == NOTHING) {
        return VM;
      }
      for (int i = 0; i < n && i < scratch.length; i += 2) {
        memory.put(bodyOf(dict), scratch[i], m.peek(n - 2 - i));
      }
      return m.answer(n + 1, dict);
    }

    private int length() {
      long o = m.peek(0);
      if (kindOf(o) == DICT) {
        return m.answer(1, integer(memory.pairs[bodyOf(o)]));
      }
      return isComposite(o) || kindOf(o) == NAME ? m.answer(1, integer(bytesOf(o))) : TYPE;
    }

    /** TYPE, where an object can't be gone into by an index or key, or RANGE; an index is looked at wholly. */
    private int checkPlace(long o, long index) {
      if (kindOf(o) == DICT) {
        return isKey(index) ? m.keyOf(index) : TYPE;
      }
      if (!isComposite(o) || kindOf(index) != INTEGER) {
        return TYPE;
      }
      return valueOf(index) < 0 || valueOf(index) >= lengthOf(o) ? RANGE : 0;
    }

    private int get() {
      long o = m.peek(1);
      int error = checkPlace(o, m.peek(0));
      if (error != 0) {
        return error;
      }
      int i = valueOf(m.peek(0));
      if (kindOf(o) == ROW) {
        return m.answer(2, memory.cellOf(o, i));
      }
      if (kindOf(o) == STRING) {
        return m.answer(2, integer(memory.byteOf(o, i)));
      }
      int pair = memory.find(bodyOf(o), m.key);
      return pair == NONE ? UNDEFINED : m.answer(2, memory.valueAt(bodyOf(o), pair));
    }

    private int put() {
      long o = m.peek(2);
      long value = m.peek(0);
      if (kindOf(o) == STRING && kindOf(value) != INTEGER) {
        return TYPE;
      }
      int error = checkPlace(o, m.peek(1));
      if (error != 0) {
        return error;
      }
      int i = valueOf(m.peek(1));
      if (kindOf(o) == ROW) {
        memory.cells[memory.cellPlace(o) + i] = value;
      } else if (kindOf(o) == STRING) {
        memory.bytes[memory.bytePlace(o) + i] = (byte) valueOf(value);
      } else if (!memory.put(bodyOf(o), m.key, value)) {
        return DICTFULL;
      }
      m.drop(3);
      return 0;
    }

    private int getInterval() {
      long o = m.peek(2);
      int from = valueOf(m.peek(1));
      int length = valueOf(m.peek(0));
      if (from < 0 || length < 0 || from > lengthOf(o) || length > lengthOf(o) - from) {
        return RANGE;
      }
      return m.answer(3, slice(o, from, length));
    }

    private int putInterval() {
      long into = m.peek(2);
      long from = m.peek(0);
      int at = valueOf(m.peek(1));
      if (kindOf(into) != kindOf(from)) {
        return TYPE;
      }
      if (at < 0 || at > lengthOf(into) || lengthOf(from) > lengthOf(into) - at) {
        return RANGE;
      }
      memory.move(from, into, at);
      m.drop(3);
      return 0;
    }

    private int spread() {
      long row = m.peek(0);
      int n = lengthOf(row);
      if (m.isCrowded(n)) {
        return OVERFLOW;
      }
      m.drop(1);
      for (int i = 0; i < n; i++) {
        m.push(memory.cellOf(row, i));
      }
      return m.push(row);
    }

    private int collect() {
      long row = m.peek(0);
      int n = lengthOf(row);
      if (n > m.count - 1) {
        return UNDERFLOW;
      }
      int at = memory.cellPlace(row);
      for (int i = 0; i < n; i++) {
        memory.cells[at + i] = m.peek(n - i);
      }
      return m.answer(n + 1, row);
    }

    /** Whether a string has another one's bytes from a place on; the caller knows that it is long enough. */
    private boolean hasAt(long s, int at, long sought) {
      for (int i = 0; i < lengthOf(sought); i++) {
        if (memory.byteOf(s, at + i) != memory.byteOf(sought, i)) {
          return false;
        }
      }
      return true;
    }

    private int search() {
      long s = m.peek(1);
      long sought = m.peek(0);
      int length = lengthOf(sought);
      int at = 0;
      while (at + length <= lengthOf(s) && !hasAt(s, at, sought)) {
        at++;
      }
      if (at + length > lengthOf(s)) {
        return m.answer(1, truth(false));
      }
      if (m.isCrowded(2)) {
        return OVERFLOW;
      }
      m.drop(2);
      m.push(slice(s, at + length, lengthOf(s) - at - length));
      m.push(slice(s, at, length));
      m.push(slice(s, 0, at));
      return m.push(truth(true));
    }

    private int searchAtBeginning() {
      long s = m.peek(1);
      long sought = m.peek(0);
      int length = lengthOf(sought);
      if (length > lengthOf(s) || !hasAt(s, 0, sought)) {
        return m.answer(1, truth(false));
      }
      if (m.isCrowded(1)) {
        return OVERFLOW;
      }
      m.drop(2);
      m.push(slice(s, length, lengthOf(s) - length));
      m.push(slice(s, 0, length));
      return m.push(truth(true));
    }

    private int token() {
      long s = m.peek(0);
      int from = memory.bytePlace(s);
      int before = memory.bodies;
      reader.aim(memory.bytes, from, from + lengthOf(s));
      int error = reader.next();
      if (error == Reader.NO_TOKEN) {
        return m.answer(1, truth(false));
      }
      if (error != 0) {
        return error;
      }
      if (m.isCrowded(2)) {
        memory.dropTo(before);
        return OVERFLOW;
      }
      int passed = reader.at - from;
      m.answer(1, slice(s, passed, lengthOf(s) - passed));
      m.push(reader.token);
      return m.push(truth(true));
    }

    // ---- Dicts by keys

    int dictOps(int op) {
      switch (op) {
        case OP_DEF: return define();
        case OP_LOAD: return load();
        case OP_STORE: return store();
        case OP_BEGIN: return openDict();
        case OP_END: return closeDict();
        case OP_KNOWN: return known();
        case OP_WHERE: return where();
        case OP_UNDEF: return undefine();
        case OP_CURRENTDICT: return m.push(Machine.dictOf(m.latestDict()));
        default: return m.push(integer(m.opened));
      }
    }

    private int define() {
      int error = m.keyOf(m.peek(1));
      return error != 0 ? error : putInto(m.latestDict());
    }

    private int store() {
      int error = m.keyOf(m.peek(1));
      if (error != 0) {
        return error;
      }
      int dict = m.dictWith(m.key);
      return putInto(dict == NONE ? m.latestDict() : dict);
    }

    private int putInto(int dict) {
      if (!memory.put(dict, m.key, m.peek(0))) {
        return DICTFULL;
      }
      m.drop(2);
      return 0;
    }

    private int load() {
      int error = m.keyOf(m.peek(0));
      if (error != 0) {
        return error;
      }
      long value = m.lookUp(m.key);
      return value == NOTHING ? UNDEFINED : m.answer(1, value);
    }

    private int openDict() {
      if (m.opened >= Machine.OPEN_LIMIT) {
        return DICTSTACKFULL;
      }
      m.open[m.opened++] = bodyOf(m.peek(0));
      m.drop(1);
      return 0;
    }

    private int closeDict() {
      if (m.opened <= 2) {
        return DICTSTACKEMPTY;
      }
      m.opened--;
      return 0;
    }

    private int known() {
      int error = m.keyOf(m.peek(0));
      if (error != 0) {
        return error;
      }
      return m.answer(2, truth(memory.find(bodyOf(m.peek(1)), m.key) != NONE));
    }

    private int where() {
      int error = m.keyOf(m.peek(0));
      if (error != 0) {
        return error;
      }
      int dict = m.dictWith(m.key);
      if (dict == NONE) {
        return m.answer(1, truth(false));
      }
      if (m.isCrowded(1)) {
        return OVERFLOW;
      }
      m.answer(1, Machine.dictOf(dict));
      return m.push(truth(true));
    }

    private int undefine() {
      int error = m.keyOf(m.peek(0));
      if (error != 0) {
        return error;
      }
      int dict = bodyOf(m.peek(1));
      int pair = memory.find(dict, m.key);
      if (pair != NONE) {
        memory.remove(dict, pair);
      }
      m.drop(2);
      return 0;
    }
  }

  /** The operators of graphics, paths, painting and fonts, and the rounds of signs and images. */
  private static final class PaintOps {
    private static final int SIDE_LIMIT = 64, STROKE_COST = 20;

    private final Machine m;
    private final Memory memory;
    private final Page page;
    private final Drawing now;
    private final int[] first = new int[6];
    private final int[] second = new int[6];
    private final int[] spots = new int[6];
    private final long[] spot = new long[2];
    private final long[] box = new long[4];
    private final int[] backs = new int[2 * Drawing.POINTS_LIMIT];
    // What readFont found.
    private final int[] fontMatrix = new int[6];
    private long fontBuild;
    private long fontCodes;

    PaintOps(Machine machine) {
      m = machine;
      memory = machine.memory;
      page = machine.page;
      now = machine.now;
    }

    // ---- The graphics' numbers

    int stateOps(int op) {
      switch (op) {
        case OP_GSAVE: return keep();
        case OP_GRESTORE: return bringBack();
        case OP_GRESTOREALL: return bringAllBack();
        case OP_INITGRAPHICS: now.initialize(page.all); return 0;
        case OP_CURRENTLINEWIDTH: return m.push(fixed(now.width));
        case OP_CURRENTGRAY: return m.push(fixed(now.grey));
        case OP_SETLINECAP: case OP_SETLINEJOIN: return setChoice(op);
        case OP_SETDOTS: return setDots();
        default: return setAmount(op);
      }
    }

    private int keep() {
      if (m.keptCount >= Machine.KEPT_LIMIT) {
        return LIMIT;
      }
      m.keep(Drawing.BY_GSAVE);
      return 0;
    }

    private int bringBack() {
      bringBackTo(m.keptCount - 1);
      return 0;
    }

    private int bringAllBack() {
      int level = m.keptCount - 1;
      while (level > 0 && m.kept[level].keptBy == Drawing.BY_GSAVE) {
        level--;
      }
      bringBackTo(level);
      return 0;
    }

    /** What a save or a sign kept stays kept. */
    private void bringBackTo(int level) {
      if (level >= 0 && level < m.keptCount) {
        m.backTo(level);
        m.keptCount += m.kept[level].keptBy == Drawing.BY_GSAVE ? 0 : 1;
      }
    }

    private int setChoice(int op) {
      int n = valueOf(m.peek(0));
      if (n < 0 || n > 2) {
        return RANGE;
      }
      if (op == OP_SETLINECAP) {
        now.ends = n;
      } else {
        now.join = n;
      }
      m.drop(1);
      return 0;
    }

    private int setAmount(int op) {
      long x = Fixed.of(m.peek(0));
      if (x == Fixed.OUT) {
        return RANGE;
      }
      if (op == OP_SETGRAY) {
        now.grey = (int) Math.max(0, Math.min(ONE, x));
      } else if (op == OP_SETLINEWIDTH) {
        if (x < 0) {
          return RANGE;
        }
        now.width = (int) x;
      } else {
        if (x < ONE || x > 20 * ONE) {
          return RANGE;
        }
        now.miter = (int) x;
      }
      m.drop(1);
      return 0;
    }

    private int setDots() {
      long row = m.peek(0);
      int n = now.dots.length;
      if (lengthOf(row) != n) {
        return RANGE;
      }
      for (int i = 0; i < n; i++) {
        if (kindOf(memory.cellOf(row, i)) != INTEGER) {
          return TYPE;
        }
      }
      int seen = 0;
      for (int i = 0; i < n; i++) {
        int dot = valueOf(memory.cellOf(row, i));
        seen |= dot >= 0 && dot < n ? 1 << dot : 0;
      }
      if (seen != (1 << n) - 1) {
        return RANGE;
      }
      for (int i = 0; i < n; i++) {
        now.dots[i] = valueOf(memory.cellOf(row, i));
      }
      m.drop(1);
      return 0;
    }

    // ---- Matrices

    int matrixOps(int op) {
      switch (op) {
        case OP_MATRIX: return newMatrix();
        case OP_CURRENTMATRIX: return answerMatrix(1, now.matrix);
        case OP_SETMATRIX: return setMatrix();
        case OP_INITMATRIX: now.initMatrix(); return 0;
        case OP_TRANSLATE: case OP_SCALE: case OP_ROTATE: return change(op);
        case OP_CONCAT: return concat();
        case OP_CONCATMATRIX: return concatMatrix();
        case OP_INVERTMATRIX: return invertMatrix();
        default: return transform(op);
      }
    }

    private int newMatrix() {
      int before = memory.bodies;
      long row = memory.make(ROW, 6);
      if (row == NOTHING) {
        return VM;
      }
      Fixed.store(first, ONE, 0, 0, ONE, 0, 0);
      writeMatrix(row, first);
      int error = m.push(row);
      if (error != 0) {
        memory.dropTo(before);
      }
      return error;
    }

    private void writeMatrix(long row, int[] matrix) {
      int at = memory.cellPlace(row);
      for (int i = 0; i < 6; i++) {
        memory.cells[at + i] = fixed(matrix[i]);
      }
    }

    /** A matrix comes into the row on top, which is left of the n uppermost operands. */
    private int answerMatrix(int n, int[] matrix) {
      long row = m.peek(0);
      if (lengthOf(row) != 6) {
        return RANGE;
      }
      writeMatrix(row, matrix);
      return m.answer(n, row);
    }

    /** The row's six numbers: 0, RANGE, or TYPE where one of them is none. */
    private int readMatrix(long row, int[] into) {
      if (lengthOf(row) != 6) {
        return RANGE;
      }
      int error = 0;
      for (int i = 0; i < 6; i++) {
        long o = memory.cellOf(row, i);
        if (!isNumber(o)) {
          return TYPE;
        }
        long v = Fixed.of(o);
        if (v == Fixed.OUT || (i < 4 && !Fixed.isMatrixPart(v))) {
          error = RANGE;
        } else {
          into[i] = (int) v;
        }
      }
      return error;
    }

    private int setMatrix() {
      int error = readMatrix(m.peek(0), first);
      if (error != 0) {
        return error;
      }
      System.arraycopy(first, 0, now.matrix, 0, 6);
      m.drop(1);
      return 0;
    }

    /** translate, scale and rotate, of the matrix or into a row. */
    private int change(int op) {
      boolean ofRow = kindOf(m.peek(0)) == ROW;
      int k = ofRow ? 1 : 0;
      int taken = (op == OP_ROTATE ? 1 : 2) + k;
      int error = op == OP_ROTATE ? readTurn(m.peek(k)) : readChange(op, m.peek(k + 1), m.peek(k));
      if (error != 0) {
        return error;
      }
      if (ofRow) {
        return answerMatrix(taken, first);
      }
      if (!Fixed.product(first, now.matrix, now.matrix)) {
        return RANGE;
      }
      m.drop(taken);
      return 0;
    }

    private int readChange(int op, long a, long b) {
      long x = Fixed.of(a);
      long y = Fixed.of(b);
      if (x == Fixed.OUT || y == Fixed.OUT) {
        return RANGE;
      }
      boolean scales = op == OP_SCALE;
      boolean stored = scales ? Fixed.store(first, x, 0, 0, y, 0, 0) : Fixed.store(first, ONE, 0, 0, ONE, x, y);
      return stored ? 0 : RANGE;
    }

    private int readTurn(long o) {
      long quarter = 90L * ONE;
      long angle = Fixed.scaled(o);
      if (angle % quarter != 0) {
        return RANGE;
      }
      int quarters = (int) Math.floorMod(angle / quarter, 4L);
      int cos = quarters == 0 ? ONE : quarters == 2 ? -ONE : 0;
      int sin = quarters == 1 ? ONE : quarters == 3 ? -ONE : 0;
      Fixed.store(first, cos, sin, -sin, cos, 0, 0);
      return 0;
    }

    private int concat() {
      int error = readMatrix(m.peek(0), first);
      if (error != 0) {
        return error;
      }
      if (!Fixed.product(first, now.matrix, now.matrix)) {
        return RANGE;
      }
      m.drop(1);
      return 0;
    }

    private int concatMatrix() {
      int error = readMatrix(m.peek(2), first);
      if (error == 0) {
        error = readMatrix(m.peek(1), second);
      }
      if (error != 0) {
        return error;
      }
      return Fixed.product(first, second, first) ? answerMatrix(3, first) : RANGE;
    }

    private int invertMatrix() {
      int error = readMatrix(m.peek(1), first);
      if (error != 0 || lengthOf(m.peek(0)) != 6) {
        return RANGE;
      }
      long det = Fixed.det(first);
      if (det == 0) {
        return RESULT;
      }
      long a = first[0];
      long b = first[1];
      long c = first[2];
      long d = first[3];
      long x = Fixed.ratio(c * first[5] - d * first[4], det);
      long y = Fixed.ratio(b * first[4] - a * first[5], det);
      boolean stored = Fixed.store(first, Fixed.ratio(d * ONE, det), Fixed.ratio(-b * ONE, det),
          Fixed.ratio(-c * ONE, det), Fixed.ratio(a * ONE, det), x, y);
      return stored ? answerMatrix(2, first) : RANGE;
    }

    /** transform and its kin, by the matrix or by one on top. */
    private int transform(int op) {
      boolean given = kindOf(m.peek(0)) == ROW;
      int k = given ? 1 : 0;
      long x = Fixed.of(m.peek(k + 1));
      long y = Fixed.of(m.peek(k));
      int error = given ? readMatrix(m.peek(0), first) : 0;
      if (x == Fixed.OUT || y == Fixed.OUT || error != 0) {
        return RANGE;
      }
      int[] matrix = given ? first : now.matrix;
      boolean moves = op == OP_TRANSFORM || op == OP_ITRANSFORM;
      long tx = moves ? matrix[4] : 0;
      long ty = moves ? matrix[5] : 0;
      if (op == OP_ITRANSFORM || op == OP_IDTRANSFORM) {
        error = Fixed.back(matrix, x - tx, y - ty, spot);
      } else {
        error = Fixed.along(matrix, x, y, moves, spot) ? 0 : RANGE;
      }
      return error != 0 ? error : m.answerPair(2 + k, spot[0], spot[1]);
    }

    // ---- Paths

    int pathOps(int op) {
      switch (op) {
        case OP_NEWPATH: now.clearPath(); return 0;
        case OP_CLOSEPATH: now.close(); return 0;
        case OP_CURRENTPOINT: return currentPoint();
        case OP_FLATTENPATH: return flattenPath();
        case OP_PATHBBOX: return pathBox();
        case OP_PATHFORALL: return beginPathForAll();
        default: return draw(op);
      }
    }

    private int draw(int op) {
      boolean relative = op == OP_RMOVETO || op == OP_RLINETO || op == OP_RCURVETO;
      if (op != OP_MOVETO && now.parts == 0) {
        return POINT;
      }
      int pairs = op == OP_CURVETO || op == OP_RCURVETO ? 3 : 1;
      for (int i = 0; i < pairs; i++) {
        if (!readSpot(2 * (pairs - 1 - i), relative, 2 * i)) {
          return RANGE;
        }
      }
      boolean drawn;
      if (pairs == 3) {
        drawn = now.curveTo(spots);
      } else if (op == OP_MOVETO || op == OP_RMOVETO) {
        drawn = now.moveTo(spots[0], spots[1]);
      } else {
        drawn = now.lineTo(spots[0], spots[1]);
      }
      if (!drawn) {
        return LIMIT;
      }
      m.drop(2 * pairs);
      return 0;
    }

    /** The place of two operands, the k-th being the y; false where it is beyond its bounds. */
    private boolean readSpot(int k, boolean relative, int into) {
      long x = Fixed.of(m.peek(k + 1));
      long y = Fixed.of(m.peek(k));
      if (x == Fixed.OUT || y == Fixed.OUT) {
        return false;
      }
      int[] matrix = now.matrix;
      long placeX = Fixed.sum(matrix[0], x, matrix[2], y, relative ? now.lastX : matrix[4]);
      long placeY = Fixed.sum(matrix[1], x, matrix[3], y, relative ? now.lastY : matrix[5]);
      if (!Drawing.isPlace(placeX) || !Drawing.isPlace(placeY)) {
        return false;
      }
      spots[into] = (int) placeX;
      spots[into + 1] = (int) placeY;
      return true;
    }

    /** A place of the page goes back, into spot. */
    private int placeBack(long x, long y) {
      return Fixed.back(now.matrix, x - now.matrix[4], y - now.matrix[5], spot);
    }

    private int currentPoint() {
      if (now.parts == 0) {
        return POINT;
      }
      int error = placeBack(now.lastX, now.lastY);
      if (error != 0) {
        return error;
      }
      return m.isCrowded(2) ? OVERFLOW : m.answerPair(0, spot[0], spot[1]);
    }

    private int flattenPath() {
      page.flatten(now);
      if (page.flatPoints > Drawing.POINTS_LIMIT) {
        return LIMIT;
      }
      int at = 0;
      now.clearPath();
      for (int i = 0; i < page.flatParts; i++) {
        int kind = page.flatKinds[i];
        if (kind == Drawing.CLOSE) {
          now.close();
        } else if (kind == Drawing.MOVE) {
          now.moveTo(page.flatX[at], page.flatY[at]);
        } else {
          now.lineTo(page.flatX[at], page.flatY[at]);
        }
        at += Drawing.pointsOf(kind);
      }
      return 0;
    }

    private int pathBox() {
      if (now.parts == 0) {
        return POINT;
      }
      Arrays.fill(box, now.places[0]);
      box[1] = now.places[1];
      box[3] = now.places[1];
      for (int i = 0; i < 2 * now.points; i++) {
        box[i % 2] = Math.min(box[i % 2], now.places[i]);
        box[2 + i % 2] = Math.max(box[2 + i % 2], now.places[i]);
      }
      int error = boxBack();
      if (error != 0) {
        return error;
      }
      if (m.isCrowded(4)) {
        return OVERFLOW;
      }
      m.answerPair(0, box[0], box[1]);
      return m.answerPair(0, box[2], box[3]);
    }

    /** The box becomes that of its four corners on their way back. */
    private int boxBack() {
      long lowX = box[0];
      long lowY = box[1];
      long highX = box[2];
      long highY = box[3];
      for (int i = 0; i < 4; i++) {
        int error = placeBack(i % 2 == 0 ? lowX : highX, i < 2 ? lowY : highY);
        if (error != 0) {
          return error;
        }
        for (int k = 0; k < 2; k++) {
          box[k] = i == 0 ? spot[k] : Math.min(box[k], spot[k]);
          box[k + 2] = i == 0 ? spot[k] : Math.max(box[k + 2], spot[k]);
        }
      }
      return 0;
    }

    private int beginPathForAll() {
      for (int i = 0; i < now.points; i++) {
        int error = placeBack(now.places[2 * i], now.places[2 * i + 1]);
        if (error != 0) {
          return error;
        }
        backs[2 * i] = (int) spot[0];
        backs[2 * i + 1] = (int) spot[1];
      }
      Frame f = m.enter(Frame.PATHFORALL, OP_PATHFORALL);
      if (f == null) {
        return EXECFULL;
      }
      f.copyPath(now, backs);
      for (int i = 0; i < 4; i++) {
        f.procedures[i] = m.peek(3 - i);
      }
      m.drop(4);
      return 0;
    }

    // ---- Painting

    int inkOps(int op) {
      switch (op) {
        case OP_FILL: case OP_EOFILL: return fill(op == OP_EOFILL);
        case OP_CLIP: case OP_EOCLIP: return clip(op == OP_EOCLIP);
        case OP_INITCLIP: System.arraycopy(page.all, 0, now.clip, 0, Page.AREA); return 0;
        case OP_STROKE: return stroke();
        case OP_ERASEPAGE: return erasePage();
        case OP_SHOWPAGE: return showPage();
        default: return beginPicture(op);
      }
    }

    private int fill(boolean evenOdd) {
      m.steps += page.flatten(now);
      page.maskPath(evenOdd);
      paintMask();
      return 0;
    }

    private int clip(boolean evenOdd) {
      m.steps += page.flatten(now);
      page.maskPath(evenOdd);
      page.clipToMask(now);
      return 0;
    }

    private int stroke() {
      m.steps += STROKE_COST * page.flatten(now);
      page.maskStroke(now);
      paintMask();
      return 0;
    }

    private void paintMask() {
      if (!m.isMute()) {
        page.paintMask(now);
      }
      now.clearPath();
    }

    private int erasePage() {
      if (!m.isMute()) {
        page.erase();
      }
      return 0;
    }

    private int showPage() {
      page.bringOut();
      erasePage();
      now.initialize(page.all);
      return 0;
    }

    private int beginPicture(int op) {
      int columns = valueOf(m.peek(4));
      int rows = valueOf(m.peek(3));
      int bits = op == OP_IMAGE ? valueOf(m.peek(2)) : 1;
      if (columns < 1 || columns > SIDE_LIMIT || rows < 1 || rows > SIDE_LIMIT) {
        return RANGE;
      }
      if ((bits != 1 && bits != 2 && bits != 4 && bits != 8) || readMatrix(m.peek(1), first) != 0) {
        return RANGE;
      }
      if (Fixed.det(now.matrix) == 0) {
        return RESULT;
      }
      Frame f = m.enter(Frame.PICTURE, op);
      if (f == null) {
        return EXECFULL;
      }
      f.procedures[0] = m.peek(0);
      System.arraycopy(first, 0, f.matrix, 0, 6);
      System.arraycopy(now.matrix, 0, f.pageMatrix, 0, 6);
      f.picture[0] = columns;
      f.picture[1] = rows;
      f.picture[2] = bits;
      f.picture[3] = now.grey;
      f.picture[4] = op == OP_IMAGE ? 2 : valueOf(m.peek(2));
      f.amount = rows * ((columns * bits + 7) / 8);
      m.drop(5);
      return 0;
    }

    /** An image is the last thing under way: NONE if it stays for a turn, 0 if it is gone, or an error. */
    int settlePicture(Frame f) {
      if (!f.busy) {
        return NONE;
      }
      f.busy = false;
      long s = m.peek(0);
      if (kindOf(s) != STRING) {
        m.under--;
        return s == NOTHING ? UNDERFLOW : TYPE;
      }
      if (f.samples == null) {
        f.samples = new byte[SIDE_LIMIT * SIDE_LIMIT];
      }
      int more = Math.min(lengthOf(s), f.amount - f.at);
      System.arraycopy(memory.bytes, memory.bytePlace(s), f.samples, f.at, more);
      f.at += more;
      m.drop(1);
      if (more > 0 && f.at < f.amount) {
        return NONE;
      }
      m.steps += f.picture[1];
      if (!m.isMute()) {
        page.paintPicture(f, now, spot);
      }
      m.under--;
      return 0;
    }

    // ---- Fonts

    int fontOps(int op) {
      switch (op) {
        case OP_DEFINEFONT: return defineFont();
        case OP_FINDFONT: return findFont();
        case OP_SCALEFONT: case OP_MAKEFONT: return makeFont(op);
        case OP_SETFONT: return setFont();
        case OP_CURRENTFONT: return readFont(now.font) ? m.push(now.font) : FONT;
        case OP_SETCHARWIDTH: return setCharWidth();
        default: return beginSigns(op);
      }
    }

    private long fontEntry(long font, int word) {
      int pair = memory.find(bodyOf(font), thing(NAME, word));
      return pair == NONE ? NOTHING : memory.valueAt(bodyOf(font), pair);
    }

    /** Whether a dict is a font; what is of use in it is kept. */
    private boolean readFont(long font) {
      if (kindOf(font) != DICT) {
        return false;
      }
      long matrix = fontEntry(font, WORD_FONT_MATRIX);
      fontBuild = fontEntry(font, WORD_BUILD_CHAR);
      fontCodes = fontEntry(font, WORD_ENCODING);
      if (kindOf(matrix) != ROW || !isProcedure(fontBuild) || (fontCodes != NOTHING && kindOf(fontCodes) != ROW)) {
        return false;
      }
      return readMatrix(matrix, fontMatrix) == 0;
    }

    private int defineFont() {
      long font = m.peek(0);
      int error = m.keyOf(m.peek(1));
      if (error != 0) {
        return error;
      }
      if (!readFont(font)) {
        return FONT;
      }
      return memory.put(Memory.FONTS, m.key, font) ? m.answer(2, font) : LIMIT;
    }

    private int findFont() {
      int error = m.keyOf(m.peek(0));
      if (error != 0) {
        return error;
      }
      int pair = memory.find(Memory.FONTS, m.key);
      return pair == NONE ? FONT : m.answer(1, memory.valueAt(Memory.FONTS, pair));
    }

    private int makeFont(int op) {
      long font = m.peek(1);
      int error = 0;
      if (op == OP_MAKEFONT) {
        error = readMatrix(m.peek(0), first);
      } else {
        long x = Fixed.of(m.peek(0));
        Fixed.set(first, x, 0, 0, x);
        first[4] = 0;
        first[5] = 0;
        error = x == Fixed.OUT ? RANGE : 0;
      }
      if (error != 0) {
        return error;
      }
      if (!readFont(font)) {
        return FONT;
      }
      if (!Fixed.product(fontMatrix, first, first)) {
        return RANGE;
      }
      return copyFont(font);
    }

    /** A font like another one but for its matrix. */
    private int copyFont(long font) {
      int before = memory.bodies;
      long row = memory.make(ROW, 6);
      long made = row == NOTHING ? NOTHING : memory.make(DICT, memory.sizes[bodyOf(font)]);
      if (made == NOTHING) {
        memory.dropTo(before);
        return VM;
      }
      memory.copyPairs(bodyOf(font), bodyOf(made));
      writeMatrix(row, first);
      memory.put(bodyOf(made), thing(NAME, WORD_FONT_MATRIX), row);
      return m.answer(2, made);
    }

    private int setFont() {
      long font = m.peek(0);
      if (!readFont(font)) {
        return FONT;
      }
      now.font = font;
      m.drop(1);
      return 0;
    }

    private int setCharWidth() {
      long x = Fixed.of(m.peek(1));
      long y = Fixed.of(m.peek(0));
      if (x == Fixed.OUT || y == Fixed.OUT) {
        return RANGE;
      }
      Frame f = m.innermostSign();
      if (f == null) {
        return UNDEFINED;
      }
      f.widths[0] = x;
      f.widths[1] = y;
      m.drop(2);
      return 0;
    }

    // ---- Signs

    /** show and its kin. */
    private int beginSigns(int op) {
      boolean spaced = op == OP_ASHOW || op == OP_WIDTHSHOW;
      int k = op == OP_WIDTHSHOW ? 2 : 1;
      long x = spaced ? Fixed.of(m.peek(k + 1)) : 0;
      long y = spaced ? Fixed.of(m.peek(k)) : 0;
      if (x == Fixed.OUT || y == Fixed.OUT) {
        return RANGE;
      }
      if (!readFont(now.font)) {
        return FONT;
      }
      if (op == OP_STRINGWIDTH ? m.keptCount >= Machine.KEPT_LIMIT : now.parts == 0) {
        return op == OP_STRINGWIDTH ? LIMIT : POINT;
      }
      Frame f = m.enter(Frame.SIGNS, op);
      if (f == null) {
        return EXECFULL;
      }
      f.source = m.peek(0);
      f.by = x;
      f.to = y;
      f.value = valueOf(m.peek(1));
      if (op == OP_KSHOW) {
        f.procedures[0] = m.peek(1);
      }
      if (op == OP_STRINGWIDTH) {
        beginWidth(f);
      }
      m.drop(op == OP_WIDTHSHOW ? 4 : op == OP_ASHOW ? 3 : op == OP_KSHOW ? 2 : 1);
      return 0;
    }

    private void beginWidth(Frame f) {
      f.level = m.keptCount;
      f.live = memory.live;
      m.keep(Drawing.BY_SIGN);
      now.matrix[4] = 0;
      now.matrix[5] = 0;
      now.clearPath();
      now.moveTo(0, 0);
      f.widths[2] = 0;
      f.widths[3] = 0;
    }

    /** A turn of show and its kin: a sign, or kshow's procedure between two. */
    int turnSign(Frame f) {
      if (f.op == OP_KSHOW && f.at > 0 && !f.between) {
        return turnBetween(f);
      }
      if (!readFont(now.font)) {
        return FONT;
      }
      if (now.parts == 0) {
        return POINT;
      }
      System.arraycopy(now.matrix, 0, first, 0, 4);
      first[4] = now.lastX;
      first[5] = now.lastY;
      if (!Fixed.product(fontMatrix, first, first)) {
        return RANGE;
      }
      if (m.keptCount >= Machine.KEPT_LIMIT) {
        return LIMIT;
      }
      if (m.isCrowded(2)) {
        return m.under >= Machine.UNDER_LIMIT ? EXECFULL : OVERFLOW;
      }
      int code = memory.byteOf(f.source, f.at);
      boolean coded = fontCodes != NOTHING && code < lengthOf(fontCodes);
      int error = m.enterThing(fontBuild);
      if (error != 0) {
        return error;
      }
      m.push(now.font);
      m.push(coded ? memory.cellOf(fontCodes, code) : integer(code));
      beginSign(f, code);
      return 0;
    }

    private void beginSign(Frame f, int code) {
      if (f.op != OP_STRINGWIDTH) {
        f.level = m.keptCount;
        f.live = memory.live;
      }
      m.keep(Drawing.BY_SIGN);
      System.arraycopy(fontMatrix, 0, f.matrix, 0, 6);
      System.arraycopy(first, 0, now.matrix, 0, 6);
      now.clearPath();
      f.widths[0] = 0;
      f.widths[1] = 0;
      f.amount = code;
      f.busy = true;
    }

    private int turnBetween(Frame f) {
      if (m.isCrowded(2)) {
        return m.under >= Machine.UNDER_LIMIT ? EXECFULL : OVERFLOW;
      }
      int error = m.enterThing(f.procedures[0]);
      if (error != 0) {
        return error;
      }
      m.push(integer(memory.byteOf(f.source, f.at - 1)));
      m.push(integer(memory.byteOf(f.source, f.at)));
      f.between = true;
      return 0;
    }

    /** Signs are the last thing under way: NONE if they stay for a turn, 0 if they are gone, or an error. */
    int settleSigns(Frame f) {
      if (f.busy) {
        leaveSign(f);
        int error = moveBehind(f);
        if (error != 0) {
          return error;
        }
      }
      if (f.at < lengthOf(f.source)) {
        return NONE;
      }
      if (f.op == OP_STRINGWIDTH) {
        int error = answerWidth(f);
        if (error != 0) {
          return error;
        }
      }
      m.under--;
      return 0;
    }

    /** A sign is through: the graphics are as ahead of it. */
    private void leaveSign(Frame f) {
      m.backTo(f.signLevel());
      memory.live = f.live;
      f.busy = false;
      f.between = false;
      f.at++;
    }

    /** The current point moves behind a sign; each distance on the way must be within the bounds by itself. */
    private int moveBehind(Frame f) {
      if (!Fixed.along(f.matrix, f.widths[0], f.widths[1], false, spot)) {
        return RANGE;
      }
      f.widths[2] += spot[0];
      f.widths[3] += spot[1];
      if (!Fixed.along(now.matrix, spot[0], spot[1], false, spot)) {
        return RANGE;
      }
      long x = now.lastX + spot[0];
      long y = now.lastY + spot[1];
      if (f.op == OP_ASHOW || (f.op == OP_WIDTHSHOW && f.value == f.amount)) {
        if (!Fixed.along(now.matrix, f.by, f.to, false, spot)) {
          return RANGE;
        }
        x += spot[0];
        y += spot[1];
      }
      if (!Drawing.isPlace(x) || !Drawing.isPlace(y)) {
        return RANGE;
      }
      return now.moveTo((int) x, (int) y) ? 0 : LIMIT;
    }

    private int answerWidth(Frame f) {
      if (!Fixed.fits(f.widths[2]) || !Fixed.fits(f.widths[3])) {
        return RANGE;
      }
      if (m.isCrowded(2)) {
        return OVERFLOW;
      }
      m.backTo(f.level);
      memory.live = f.live;
      return m.answerPair(0, f.widths[2], f.widths[3]);
    }
  }

  /** Runs what is under way, step by step; and the operators of control and memory. */
  private static final class Flow {
    private static final int LOOKUPS_LIMIT = 50, BIND_LIMIT = 2000, PATTERN = 8;
    // More than one step can do by exec and names, or settle of what is under way.
    private static final int FAR = 1000;

    private final Machine m;
    private final Memory memory;
    private final Reader reader;
    private final DataOps data;
    private final PaintOps paint;
    private final byte[] text = new byte[TAPE_LIMIT];
    // What each operator takes, and in which of the texts of operators it stands.
    private final byte[] patterns = new byte[OPERATORS * PATTERN];
    private final byte[] groups = new byte[OPERATORS];
    // Of one step: the object that is to be executed next; what exec took, which goes back if exec fails; the names
    // that were looked up; and what an error would blame.
    private long taken;
    private long held;
    private int lookups;
    private int blame;
    private final long[] bound = new long[BIND_LIMIT + 1];

    Flow(Machine machine, Reader aReader) {
      m = machine;
      memory = machine.memory;
      reader = aReader;
      data = new DataOps(machine, aReader);
      paint = new PaintOps(machine);
      int op = addGroup(STACK_WORDS, 0, 0);
      op = addGroup(NUMBER_WORDS, 1, op);
      op = addGroup(OBJECT_WORDS, 2, op);
      op = addGroup(ROW_WORDS, 3, op);
      op = addGroup(DICT_WORDS, 4, op);
      op = addGroup(TELL_WORDS, 5, op);
      op = addGroup(CONTROL_WORDS, 6, op);
      op = addGroup(STATE_WORDS, 7, op);
      op = addGroup(MATRIX_WORDS, 8, op);
      op = addGroup(PATH_WORDS, 9, op);
      op = addGroup(INK_WORDS, 10, op);
      addGroup(FONT_WORDS, 11, op);
    }

    /** Every second word is what the operator ahead of it takes; answers the number of the next operator. */
    private int addGroup(String words, int group, int firstOp) {
      int op = firstOp;
      int word = 0;
      int length = 0;
      for (int i = 0; i < words.length() && op < OPERATORS; i++) {
        char c = words.charAt(i);
        groups[op] = (byte) group;
        if (c == ' ') {
          op += word % 2;
          word++;
          length = 0;
        } else if (word % 2 == 1 && c != '-' && length < PATTERN) {
          patterns[op * PATTERN + length++] = (byte) c;
        }
      }
      return op + 1;
    }

    /** The bytes are the text from now on; what was under way goes. */
    void beginText(byte[] bytes, int length) {
      unwind(0);
      m.failed = false;
      System.arraycopy(bytes, 0, text, 0, length);
      Frame f = m.enter(Frame.TEXT, NONE);
      if (f != null) {
        f.amount = length;
      }
      settle();
    }

    /** One step of the last thing under way. */
    void step() {
      Frame f = m.lastFrame();
      if (f == null) {
        return;
      }
      m.steps++;
      taken = NOTHING;
      held = NOTHING;
      lookups = 0;
      blame = NONE;
      int error = f.sort > Frame.STOPPED ? turn(f) : take(f);
      for (int i = 0; i < FAR && error == 0 && taken != NOTHING; i++) {
        long o = taken;
        taken = NOTHING;
        if (kindOf(o) != OPERATOR || !isExecutable(o)) {
          error = execute(o);
          continue;
        }
        int op = valueOf(o);
        blame = op;
        held = NOTHING;
        error = checkOperands(op);
        if (error != 0) {
          break;
        }
        // The groups stand in the order of the texts of operators; one more call in between would be one too deep.
        switch (groups[op]) {
          case 0: error = data.stackOps(op); break;
          case 1: error = data.numberOps(op); break;
          case 2: error = data.objectOps(op); break;
          case 3: error = data.rowOps(op); break;
          case 4: error = data.dictOps(op); break;
          case 5: error = data.tellOps(op); break;
          case 6: error = controlOps(op); break;
          case 7: error = paint.stateOps(op); break;
          case 8: error = paint.matrixOps(op); break;
          case 9: error = paint.pathOps(op); break;
          case 10: error = paint.inkOps(op); break;
          default: error = paint.fontOps(op); break;
        }
      }
      if (error != 0) {
        fail(error);
      }
      settle();
    }

    // ---- Objects

    /** Takes the next object; it becomes an operand, or stays taken if it is to be executed. */
    private int take(Frame f) {
      int before = memory.bodies;
      int error = f.sort == Frame.PROCEDURE ? takeElement(f) : takeToken(f);
      if (error != 0) {
        return error;
      }
      long o = taken;
      int kind = kindOf(o);
      if (kind == NAME) {
        blame = valueOf(o);
      }
      if (isExecutable(o) && (kind == NAME || kind == OPERATOR)) {
        return 0;
      }
      taken = NOTHING;
      error = m.push(o);
      if (error != 0) {
        memory.dropTo(before);
      }
      return error;
    }

    private int takeElement(Frame f) {
      taken = memory.cellOf(f.source, f.at);
      f.at++;
      if (f.at >= lengthOf(f.source)) {
        m.under--;
      }
      return 0;
    }

    private int takeToken(Frame f) {
      int from = aimAt(f);
      int error = reader.next();
      if (error != 0) {
        return error == Reader.NO_TOKEN ? SYNTAX : error;
      }
      taken = reader.token;
      f.at = reader.at - from;
      if (!reader.hasMore()) {
        m.under--;
      }
      return 0;
    }

    /** The reader stands where a text or string was left; answers where that begins. */
    private int aimAt(Frame f) {
      if (f.sort == Frame.TEXT) {
        reader.aim(text, f.at, f.amount);
        return 0;
      }
      int from = memory.bytePlace(f.source);
      reader.aim(memory.bytes, from + f.at, from + lengthOf(f.source));
      return from;
    }

    private int execute(long o) {
      int error;
      if (!isExecutable(o)) {
        error = m.push(o);
      } else if (kindOf(o) == NAME) {
        error = followName(o);
      } else {
        error = m.enterThing(o);
      }
      if (error != 0 && held != NOTHING) {
        m.push(held);
      }
      return error;
    }

    private int followName(long name) {
      if (lookups >= LOOKUPS_LIMIT) {
        return LIMIT;
      }
      lookups++;
      taken = m.lookUp(literal(name));
      return taken == NOTHING ? UNDEFINED : 0;
    }

    // ---- Operators

    /** UNDERFLOW and TYPE, as far as the pattern tells them. */
    private int checkOperands(int op) {
      int from = op * PATTERN;
      int to = from;
      while (to < from + PATTERN && patterns[to] != 0 && patterns[to] != '/') {
        to++;
      }
      if (to < from + PATTERN && patterns[to] == '/' && kindOf(m.peek(0)) == ROW) {
        from = to + 1;
        to = from;
        while (to < (op + 1) * PATTERN && patterns[to] != 0) {
          to++;
        }
      }
      if (to - from > m.count) {
        return UNDERFLOW;
      }
      for (int i = from; i < to; i++) {
        if (!suits(patterns[i], m.peek(to - 1 - i))) {
          return TYPE;
        }
      }
      return 0;
    }

    private boolean suits(int letter, long o) {
      int kind = kindOf(o);
      switch (letter) {
        case 'x': return isNumber(o);
        case 'i': return kind == INTEGER;
        case 'b': return kind == BOOLEAN;
        case 's': return kind == STRING;
        case 'r': return kind == ROW;
        case 'd': return kind == DICT;
        case 'e': return kind == ROW || kind == STRING;
        case 'c': return isComposite(o);
        case 'p': return isProcedure(o);
        case 'k': return isKey(o);
        case 'v': return kind == SAVE;
        case 'z': return kind == ROW && isMatrixLike(o);
        default: return true;
      }
    }

    /** A row of another length is no matter of its elements' kinds. */
    private boolean isMatrixLike(long row) {
      boolean numbers = true;
      for (int i = 0; i < 6 && lengthOf(row) == 6; i++) {
        numbers = numbers && isNumber(memory.cellOf(row, i));
      }
      return numbers;
    }

    private int controlOps(int op) {
      switch (op) {
        case OP_EXEC: return exec();
        case OP_IF: return choose(valueOf(m.peek(1)) != 0, 0, 2);
        case OP_IFELSE: return choose(true, valueOf(m.peek(2)) != 0 ? 1 : 0, 3);
        case OP_REPEAT: return repeat();
        case OP_LOOP: return loop();
        case OP_FOR: return beginFor();
        case OP_FORALL: return forAll();
        case OP_EXIT: return leaveRound();
        case OP_STOP: return HALT;
        case OP_STOPPED: return stopped();
        case OP_BIND: return bind();
        case OP_SAVE: return save();
        case OP_RESTORE: return restore();
        default: return tellMemory();
      }
    }

    private int exec() {
      taken = m.peek(0);
      held = taken;
      m.drop(1);
      return 0;
    }

    /** if and ifelse: the k-th operand is the procedure that may be done. */
    private int choose(boolean done, int k, int operands) {
      int error = done ? m.enterThing(m.peek(k)) : 0;
      if (error == 0) {
        m.drop(operands);
      }
      return error;
    }

    /** A round that goes through the uppermost operand; null where there is no room. */
    private Frame beginRound(int sort, int op) {
      Frame f = m.enter(sort, op);
      if (f != null) {
        f.procedures[0] = m.peek(0);
      }
      return f;
    }

    private int repeat() {
      int n = valueOf(m.peek(1));
      if (n < 0) {
        return RANGE;
      }
      Frame f = beginRound(Frame.REPEAT, OP_REPEAT);
      if (f == null) {
        return EXECFULL;
      }
      f.value = n;
      m.drop(2);
      return 0;
    }

    private int loop() {
      if (beginRound(Frame.LOOP, OP_LOOP) == null) {
        return EXECFULL;
      }
      m.drop(1);
      return 0;
    }

    private int beginFor() {
      boolean whole = true;
      boolean out = false;
      for (int k = 1; k <= 3; k++) {
        whole = whole && kindOf(m.peek(k)) == INTEGER;
        out = out || Fixed.of(m.peek(k)) == Fixed.OUT;
      }
      if (!whole && out) {
        return RANGE;
      }
      Frame f = beginRound(Frame.FOR, OP_FOR);
      if (f == null) {
        return EXECFULL;
      }
      f.amount = whole ? INTEGER : FIXED;
      f.value = whole ? valueOf(m.peek(3)) : Fixed.of(m.peek(3));
      f.by = whole ? valueOf(m.peek(2)) : Fixed.of(m.peek(2));
      f.to = whole ? valueOf(m.peek(1)) : Fixed.of(m.peek(1));
      m.drop(4);
      return 0;
    }

    private int forAll() {
      Frame f = beginRound(Frame.FORALL, OP_FORALL);
      if (f == null) {
        return EXECFULL;
      }
      f.source = m.peek(1);
      m.drop(2);
      return 0;
    }

    private int leaveRound() {
      for (int i = m.under - 1; i >= 0; i--) {
        Frame f = m.frames[i];
        if (f.sort == Frame.PROCEDURE || f.sort == Frame.TEXT_STRING) {
          continue;
        }
        boolean plain = f.sort > Frame.STOPPED && f.sort <= Frame.PATHFORALL;
        if (plain || (f.sort == Frame.SIGNS && f.op == OP_KSHOW && !f.busy)) {
          m.under = i;
          return 0;
        }
        return EXIT;
      }
      return EXIT;
    }

    private int stopped() {
      if (m.enter(Frame.STOPPED, OP_STOPPED) == null) {
        return EXECFULL;
      }
      taken = m.peek(0);
      m.drop(1);
      return 0;
    }

    private int bind() {
      int found = 1;
      int elements = 0;
      bound[0] = m.peek(0);
      for (int i = 0; i < found; i++) {
        elements += lengthOf(bound[i]);
        if (elements > BIND_LIMIT) {
          return LIMIT;
        }
        for (int k = 0; k < lengthOf(bound[i]); k++) {
          long o = memory.cellOf(bound[i], k);
          if (isProcedure(o) && found < bound.length && !isBound(o, found)) {
            bound[found++] = o;
          }
        }
      }
      for (int i = 0; i < found; i++) {
        bindNames(bound[i]);
      }
      m.steps += elements;
      return 0;
    }

    private boolean isBound(long procedure, int found) {
      for (int i = 0; i < found; i++) {
        if (bound[i] == procedure) {
          return true;
        }
      }
      return false;
    }

    private void bindNames(long procedure) {
      int at = memory.cellPlace(procedure);
      for (int i = at; i < at + lengthOf(procedure); i++) {
        long o = memory.cells[i];
        if (kindOf(o) == NAME && isExecutable(o)) {
          long value = m.lookUp(literal(o));
          if (kindOf(value) == OPERATOR && isExecutable(value)) {
            memory.cells[i] = value;
          }
        }
      }
    }

    // ---- Memory

    private int save() {
      if (memory.live >= Memory.SAVES_LIMIT || m.keptCount >= Machine.KEPT_LIMIT) {
        return LIMIT;
      }
      if (m.isCrowded(1)) {
        return OVERFLOW;
      }
      int level = m.keptCount;
      m.keep(Drawing.BY_SAVE);
      return m.push(memory.save(level));
    }

    private int restore() {
      int slot = memory.slotOf(m.peek(0));
      if (slot == NONE) {
        return RESTORE;
      }
      Frame sign = m.innermostSign();
      if ((sign != null && slot < sign.live) || isUsedSince(memory.savedBodies[slot])) {
        return RESTORE;
      }
      m.drop(1);
      memory.giveBack(slot);
      m.backTo(memory.savedLevel[slot]);
      return 0;
    }

    /** Whether one of the bodies that were made when there were so many is in use. */
    private boolean isUsedSince(int bodies) {
      boolean used = false;
      for (int k = 1; k < m.count; k++) {
        used = used || (isComposite(m.peek(k)) && bodyOf(m.peek(k)) >= bodies);
      }
      for (int i = 0; i < m.opened; i++) {
        used = used || m.open[i] >= bodies;
      }
      for (int i = 0; i < m.under; i++) {
        used = used || m.frames[i].usesSince(bodies);
      }
      return used;
    }

    private int tellMemory() {
      if (m.isCrowded(2)) {
        return OVERFLOW;
      }
      m.push(integer(memory.live));
      return m.push(integer(memory.room));
    }

    // ---- Rounds

    /** The next turn of a round; no room under way is told ahead of no room for operands. */
    private int turn(Frame f) {
      blame = f.op;
      if (f.sort == Frame.SIGNS) {
        return paint.turnSign(f);
      }
      if (m.under >= Machine.UNDER_LIMIT) {
        return EXECFULL;
      }
      if (m.isCrowded(operandsOfTurn(f))) {
        return OVERFLOW;
      }
      int which = 0;
      switch (f.sort) {
        case Frame.REPEAT: f.value--; break;
        case Frame.FOR:
          m.push(thing(f.amount, (int) f.value));
          f.value += f.by;
          break;
        case Frame.FORALL: giveElement(f); break;
        case Frame.PATHFORALL: which = givePlaces(f); break;
        case Frame.PICTURE: f.busy = true; break;
        default: break;
      }
      return m.enterThing(f.procedures[which]);
    }

    private static int operandsOfTurn(Frame f) {
      switch (f.sort) {
        case Frame.FOR: return 1;
        case Frame.FORALL: return kindOf(f.source) == DICT ? 2 : 1;
        case Frame.PATHFORALL: return 2 * Drawing.pointsOf(f.kindAt());
        default: return 0;
      }
    }

    private void giveElement(Frame f) {
      int i = f.at++;
      if (kindOf(f.source) == DICT) {
        m.push(memory.keyAt(bodyOf(f.source), i));
        m.push(memory.valueAt(bodyOf(f.source), i));
      } else {
        m.push(kindOf(f.source) == ROW ? memory.cellOf(f.source, i) : integer(memory.byteOf(f.source, i)));
      }
    }

    /** Answers which of pathforall's procedures is due. */
    private int givePlaces(Frame f) {
      int kind = f.kindAt();
      for (int i = 0; i < Drawing.pointsOf(kind) && f.places != null; i++) {
        int at = 2 * (int) f.value++;
        m.push(fixed(f.places[at]));
        m.push(fixed(f.places[at + 1]));
      }
      f.at++;
      return kind;
    }

    // ---- Ends

    /** What has no more goes, and what is done as it goes; until the last thing under way has a step to do. */
    private void settle() {
      for (int i = 0; i < FAR; i++) {
        Frame f = m.lastFrame();
        if (f == null || isWaiting(f)) {
          return;
        }
        if (f.sort == Frame.SIGNS || f.sort == Frame.PICTURE) {
          blame = f.op;
          int error = f.sort == Frame.SIGNS ? paint.settleSigns(f) : paint.settlePicture(f);
          if (error == NONE) {
            return;
          }
          if (error != 0) {
            fail(error);
          }
        } else {
          m.under--;
          if (f.sort == Frame.STOPPED) {
            m.pushSurely(truth(false));
          }
        }
      }
    }

    /** Whether the last thing under way has more to do, as far as that is told without doing anything. */
    private boolean isWaiting(Frame f) {
      switch (f.sort) {
        case Frame.TEXT: case Frame.TEXT_STRING:
          aimAt(f);
          return reader.hasMore();
        case Frame.PROCEDURE: return f.at < lengthOf(f.source);
        case Frame.STOPPED: case Frame.SIGNS: case Frame.PICTURE: return false;
        default: return !f.isOver(memory);
      }
    }

    /** An error is kept, and it stops. */
    private void fail(int error) {
      if (error != HALT) {
        m.error = error;
        m.blamed = blame;
      }
      int level = m.under - 1;
      while (level >= 0 && m.frames[level].sort != Frame.STOPPED) {
        level--;
      }
      unwind(Math.max(0, level));
      if (level >= 0) {
        m.pushSurely(truth(true));
      } else {
        m.failed = true;
      }
    }

    /** All that is under way from there on goes; graphics become as the first sign among it had kept them. */
    private void unwind(int level) {
      for (int i = level; i < m.under; i++) {
        Frame f = m.frames[i];
        if (f.isSign()) {
          m.backTo(f.level);
          memory.live = f.live;
          break;
        }
      }
      m.under = level;
    }
  }
}
