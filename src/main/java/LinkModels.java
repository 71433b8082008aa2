/**
 * Builds of classes read from texts, and uses of their members linked against one of them.
 *
 * <p>Inside, a member is told by one number, its spot: STRIDE times the place of its class, its place
 * among that class's members, and 1. So what is left for 0 tells the class alone, where a USE has no
 * member, and an answer below 0 is never a spot.
 */
public final class LinkModels {
  public static final int NONE = -1, UNKNOWN = -2, OUTSIDE = -3, STATE = -4, FULL = -5;

  private static final int TAPE_LIMIT = 800;
  private static final int BUILD_LIMIT = 5;
  private static final int USE_LIMIT = 40;

  private final byte[] tape;
  private int tapeLength;
  private final Build[] builds;
  private int buildCount;
  private final Use[] uses;
  private int useCount;
  private final Reader reader;

  public LinkModels() {
    tape = new byte[TAPE_LIMIT];
    tapeLength = 0;
    builds = new Build[BUILD_LIMIT];
    buildCount = 0;
    uses = new Use[USE_LIMIT];
    useCount = 0;
    reader = new Reader(tape);
  }

  public int feed(long w, int n) {
    if (n < 1 || n > 8) {
      return OUTSIDE;
    }
    if (tapeLength + n > TAPE_LIMIT) {
      return FULL;
    }
    for (int i = n - 1; i >= 0; i--) {
      tape[tapeLength] = (byte) (w >>> (8 * i));
      tapeLength++;
    }
    return tapeLength;
  }

  public int build() {
    int length = tapeLength;
    tapeLength = 0;
    if (buildCount >= BUILD_LIMIT) {
      return FULL;
    }
    Build next = emptyBuild();
    if (!reader.reads(next, length)) {
      return -10000 - 1000 * reader.fault() - reader.place();
    }
    next.settle();
    buildCount++;
    return buildCount - 1;
  }

  public int defined(int build, int name) {
    Build b = buildAt(build);
    if (b == null) {
      return UNKNOWN;
    }
    int error = b.errorAt(b.placeOf(name));
    return error == 0 ? 1 : Linker.failed(error);
  }

  public int count(int build, int what) {
    Build b = buildAt(build);
    if (b == null) {
      return UNKNOWN;
    }
    switch (what) {
      case 0:
        return b.classCount;
      case 1:
        return b.membersWith(Build.METHOD, 0);
      case 2:
        return b.membersWith(Build.METHOD, Build.METHOD);
      case 3:
        return b.membersWith(Build.CONSTANT, Build.CONSTANT);
      default:
        return OUTSIDE;
    }
  }

  public int name(int build, int i) {
    Build b = buildAt(build);
    if (b == null) {
      return UNKNOWN;
    }
    return i < 0 || i >= b.classCount ? NONE : b.names[i];
  }

  public int is(int build, int name, int other) {
    Build b = buildAt(build);
    if (b == null) {
      return UNKNOWN;
    }
    int one = b.placeOf(name);
    int two = b.placeOf(other);
    if (b.errorAt(one) != 0) {
      return Linker.failed(b.errorAt(one));
    }
    if (b.errorAt(two) != 0) {
      return Linker.failed(b.errorAt(two));
    }
    return b.isOf(one, two) ? 1 : 0;
  }

  public int use(int kind, int caller, int owner, long word, int n, int first, int second) {
    if (kind < Use.GET || kind > Use.CAST || n < 0 || n > Build.TYPE_LIMIT) {
      return OUTSIDE;
    }
    if (useCount >= USE_LIMIT) {
      return FULL;
    }
    Use made = new Use(kind, caller, owner);
    made.wanted.begin(word);
    if (n > 0) {
      made.wanted.add(first);
    }
    if (n > 1) {
      made.wanted.add(second);
    }
    uses[useCount] = made;
    useCount++;
    return useCount - 1;
  }

  public int link(int build, int use) {
    return classOf(linkedSpot(build, use));
  }

  public int member(int build, int use) {
    return placeIn(linkedSpot(build, use));
  }

  public int done(int build, int use, int receiver) {
    return classOf(doneSpot(build, use, receiver));
  }

  public int doneMember(int build, int use, int receiver) {
    return placeIn(doneSpot(build, use, receiver));
  }

  public int compile(int build, int use) {
    Build b = buildAt(build);
    Use u = useAt(use);
    if (b == null || u == null) {
      return UNKNOWN;
    }
    if (u.kind != Use.GET_STATIC) {
      return STATE;
    }
    int spot = Linker.linked(b, u);
    if (spot < 0) {
      return spot;
    }
    u.copy = b.numberAt(spot);
    return u.copy == NONE ? 0 : 1;
  }

  public int copied(int use) {
    Use u = useAt(use);
    return u == null ? UNKNOWN : u.copy;
  }

  public int stale(int build, int use) {
    Build b = buildAt(build);
    Use u = useAt(use);
    if (b == null || u == null) {
      return UNKNOWN;
    }
    if (u.copy == NONE) {
      return STATE;
    }
    int spot = Linker.linked(b, u);
    return spot >= 0 && b.numberAt(spot) == u.copy ? 0 : 1;
  }

  public int changed(int build, int other, int i) {
    Build one = buildAt(build);
    Build two = buildAt(other);
    if (one == null || two == null) {
      return UNKNOWN;
    }
    int seen = 0;
    for (int at = 0; at < useCount; at++) {
      if (Linker.tellApart(one, two, uses[at])) {
        if (seen == i) {
          return at;
        }
        seen++;
      }
    }
    return NONE;
  }

  public int told(int what) {
    switch (what) {
      case 0:
        return tapeLength;
      case 1:
        return buildCount;
      case 2:
        return useCount;
      default:
        return OUTSIDE;
    }
  }

  public int share(int build) throws IllegalArgumentException, ArithmeticException {
    Build b = buildAt(build);
    if (b == null) {
      throw new IllegalArgumentException("no such build");
    }
    int good = 0;
    for (int at = 0; at < useCount; at++) {
      if (Linker.linked(b, uses[at]) >= 0) {
        good++;
      }
    }
    int bad = useCount - good;
    if (bad == 0) {
      throw new ArithmeticException("all uses link");
    }
    return good / bad;
  }

  /** A build that was refused leaves its rows to the next one, so that faults cost no room. */
  private Build emptyBuild() {
    Build next = builds[buildCount];
    if (next == null) {
      next = new Build();
      builds[buildCount] = next;
    }
    next.classCount = 0;
    return next;
  }

  private Build buildAt(int build) {
    return build < 0 || build >= buildCount ? null : builds[build];
  }

  private Use useAt(int use) {
    return use < 0 || use >= useCount ? null : uses[use];
  }

  private int linkedSpot(int build, int use) {
    Build b = buildAt(build);
    Use u = useAt(use);
    if (b == null || u == null) {
      return UNKNOWN;
    }
    return Linker.linked(b, u);
  }

  private int doneSpot(int build, int use, int receiver) {
    Build b = buildAt(build);
    Use u = useAt(use);
    if (b == null || u == null) {
      return UNKNOWN;
    }
    if (u.kind != Use.CALL && u.kind != Use.CALL_FACE) {
      return STATE;
    }
    int spot = Linker.linked(b, u);
    return spot < 0 ? spot : Linker.performed(b, u, spot, receiver);
  }

  private static int classOf(int spot) {
    return spot < 0 ? spot : spot / Build.STRIDE;
  }

  private static int placeIn(int spot) {
    return spot < 0 ? spot : spot % Build.STRIDE - 1;
  }

  /** By what a member is asked for: its WORD and, where it is a METHOD, its types. */
  private static final class Signature {
    long word;
    int typeCount;
    int first;
    int second;

    void begin(long w) {
      word = w;
      typeCount = 0;
      first = 0;
      second = 0;
    }

    void add(int type) {
      if (typeCount == 0) {
        first = type;
      } else {
        second = type;
      }
      typeCount++;
    }
  }

  /** A USE as it was told, with the NUMBER that was copied into it. */
  private static final class Use {
    static final int GET = 0, PUT = 1, GET_STATIC = 2, PUT_STATIC = 3;
    static final int CALL = 4, CALL_STATIC = 5, CALL_ABOVE = 6, CALL_FACE = 7, MAKE = 8, CAST = 9;

    final int kind;
    final int caller;
    final int owner;
    final Signature wanted;
    int copy;

    Use(int toldKind, int toldCaller, int toldOwner) {
      kind = toldKind;
      caller = toldCaller;
      owner = toldOwner;
      wanted = new Signature();
      copy = NONE;
    }

    boolean asksField() {
      return kind <= PUT_STATIC;
    }

    boolean puts() {
      return kind == PUT || kind == PUT_STATIC;
    }

    boolean asksStatic() {
      return kind == GET_STATIC || kind == PUT_STATIC || kind == CALL_STATIC;
    }
  }

  /** Cuts the tape into TOKENS; one of them at a time is looked at. */
  private static final class Tokens {
    static final int END = 0, NAME = 1, WORD = 2, NUMBER = 3, SIGN = 4, BAD = 5;

    private final byte[] tape;
    private int length;
    private int behind;
    int start;
    int sort;
    long value;

    Tokens(byte[] bytes) {
      tape = bytes;
    }

    void open(int tapeLength) {
      length = Math.min(tapeLength, tape.length);
      behind = 0;
      step();
    }

    void step() {
      while (behind < length && (tape[behind] == 32 || tape[behind] == 10)) {
        behind++;
      }
      start = behind;
      value = 0;
      sort = behind < length ? sortOf(tape[behind]) : END;
      boolean goesOn = sort != END;
      while (goesOn && behind < length) {
        take(tape[behind]);
        behind++;
        goesOn = behind < length && joins(sortOf(tape[behind]));
      }
      if (behind - start > longest()) {
        sort = BAD;
      }
    }

    boolean isSign(char sign) {
      return sort == SIGN && value == sign;
    }

    boolean isWord(long word) {
      return sort == WORD && value == word;
    }

    private void take(int b) {
      value = sort == NUMBER ? value * 10 + (b - '0') : value << 8 | b & 255;
    }

    private boolean joins(int next) {
      return sort == NAME && (next == NAME || next == NUMBER)
          || sort == WORD && next == WORD
          || sort == NUMBER && next == NUMBER;
    }

    private int longest() {
      switch (sort) {
        case NAME:
          return 4;
        case WORD:
          return 8;
        case NUMBER:
          return 6;
        default:
          return 1;
      }
    }

    private static int sortOf(int b) {
      if (b >= 'A' && b <= 'Z') {
        return NAME;
      }
      if (b >= 'a' && b <= 'z') {
        return WORD;
      }
      if (b >= '0' && b <= '9') {
        return NUMBER;
      }
      switch (b) {
        case '{':
        case '}':
        case '(':
        case ')':
        case ';':
        case ',':
        case ':':
        case '=':
        case '<':
          return SIGN;
        default:
          return BAD;
      }
    }
  }

  /** Reads the classes of a build by their grammar and stops at the first FAULT. */
  private static final class Reader {
    private static final int CANNOT_STAND = 1, TOO_MANY = 2, ALREADY = 3, NO_CONSTANT = 4;

    // Words by their bytes, as TOKENS tell them.
    private static final long CLASS = 0x636c617373L;
    private static final long FACE = 0x66616365L;
    private static final long ABSTRACT = 0x6162737472616374L;
    private static final long FINAL = 0x66696e616cL;
    private static final long STATIC = 0x737461746963L;
    private static final long HIDDEN = 0x68696464656eL;
    private static final long INT = 0x696e74L;
    private static final long LONG = 0x6c6f6e67L;
    private static final long VOID = 0x766f6964L;

    // Types as a USE tells them; void is none that a USE can ask for, and no NAME is 2.
    private static final int INT_TYPE = 0, LONG_TYPE = 1, VOID_TYPE = 2;

    private final Tokens tokens;
    private final Signature signature;
    private int marks;
    private int type;
    private int fault;

    Reader(byte[] tape) {
      tokens = new Tokens(tape);
      signature = new Signature();
    }

    int fault() {
      return fault;
    }

    int place() {
      return tokens.start;
    }

    boolean reads(Build target, int length) {
      fault = 0;
      tokens.open(length);
      for (int i = 0; i <= Build.CLASS_LIMIT && tokens.sort != Tokens.END; i++) {
        if (!readsHead(target)) {
          return false;
        }
        for (int k = 0; k <= Build.MEMBER_LIMIT && !tokens.isSign('}'); k++) {
          if (!readsMember(target)) {
            return false;
          }
        }
        tokens.step();
      }
      return true;
    }

    private boolean refuse(int why) {
      fault = why;
      return false;
    }

    private boolean readsHead(Build target) {
      int mark = classMarkHere();
      if (mark == 0 && !tokens.isWord(CLASS)) {
        return refuse(CANNOT_STAND);
      }
      if (target.classCount >= Build.CLASS_LIMIT) {
        return refuse(TOO_MANY);
      }
      if (mark != 0) {
        tokens.step();
      }
      if (!tokens.isWord(CLASS)) {
        return refuse(CANNOT_STAND);
      }
      tokens.step();
      if (tokens.sort != Tokens.NAME) {
        return refuse(CANNOT_STAND);
      }
      if (target.placeOf((int) tokens.value) != NONE) {
        return refuse(ALREADY);
      }
      target.addClass((int) tokens.value, mark);
      tokens.step();
      return readsAbove(target) && readsFaces(target) && passes('{');
    }

    private boolean readsAbove(Build target) {
      if (!tokens.isSign('<')) {
        return true;
      }
      tokens.step();
      if (tokens.sort != Tokens.NAME) {
        return refuse(CANNOT_STAND);
      }
      target.setAbove((int) tokens.value);
      tokens.step();
      return true;
    }

    private boolean readsFaces(Build target) {
      boolean more = tokens.isSign(':');
      for (int i = 0; i <= Build.FACE_LIMIT && more; i++) {
        tokens.step();
        if (tokens.sort != Tokens.NAME) {
          return refuse(CANNOT_STAND);
        }
        if (i >= Build.FACE_LIMIT) {
          return refuse(TOO_MANY);
        }
        target.addFace((int) tokens.value);
        tokens.step();
        more = tokens.isSign(',');
      }
      return true;
    }

    private boolean readsMember(Build target) {
      if (markHere() == 0 && typeHere() == NONE) {
        return refuse(CANNOT_STAND);
      }
      if (target.isFilled()) {
        return refuse(TOO_MANY);
      }
      if (!readsMarks()) {
        return false;
      }
      type = typeHere();
      if (type == NONE) {
        return refuse(CANNOT_STAND);
      }
      tokens.step();
      if (!isMemberWordHere()) {
        return refuse(CANNOT_STAND);
      }
      signature.begin(tokens.value);
      tokens.step();
      return tokens.isSign('(') ? readsMethod(target) : readsField(target);
    }

    private boolean readsMarks() {
      marks = 0;
      int mark = markHere();
      for (int i = 0; i < 4 && mark != 0; i++) {
        boolean alone = mark == Build.ABSTRACT || marks == Build.ABSTRACT;
        if ((marks & mark) != 0 || alone && marks != 0) {
          return refuse(CANNOT_STAND);
        }
        marks |= mark;
        tokens.step();
        mark = markHere();
      }
      return true;
    }

    private boolean readsField(Build target) {
      boolean constant = tokens.isSign('=');
      if (!constant && !tokens.isSign(';')) {
        return refuse(CANNOT_STAND);
      }
      if (type == VOID_TYPE || marks == Build.ABSTRACT) {
        return refuse(CANNOT_STAND);
      }
      if (target.fieldIn(target.classCount - 1, signature.word) != NONE) {
        return refuse(ALREADY);
      }
      int number = NONE;
      if (constant) {
        if (type != INT_TYPE || (marks & Build.STATIC) == 0 || (marks & Build.FINAL) == 0) {
          return refuse(NO_CONSTANT);
        }
        marks |= Build.CONSTANT;
        tokens.step();
        if (tokens.sort != Tokens.NUMBER) {
          return refuse(CANNOT_STAND);
        }
        number = (int) tokens.value;
        tokens.step();
      }
      target.addMember(marks, signature, number);
      return passes(';');
    }

    private boolean readsMethod(Build target) {
      if ((marks & Build.FINAL) != 0) {
        return refuse(CANNOT_STAND);
      }
      tokens.step();
      if (!tokens.isSign(')') && !readsTypes()) {
        return false;
      }
      if (target.methodIn(target.classCount - 1, signature) != NONE) {
        return refuse(ALREADY);
      }
      target.addMember(marks | Build.METHOD, signature, NONE);
      tokens.step();
      return passes(';');
    }

    private boolean readsTypes() {
      boolean more = true;
      for (int i = 0; i <= Build.TYPE_LIMIT && more; i++) {
        int here = typeHere();
        if (here == NONE || here == VOID_TYPE) {
          return refuse(CANNOT_STAND);
        }
        if (i >= Build.TYPE_LIMIT) {
          return refuse(TOO_MANY);
        }
        signature.add(here);
        tokens.step();
        more = tokens.isSign(',');
        if (more) {
          tokens.step();
        }
      }
      return tokens.isSign(')') || refuse(CANNOT_STAND);
    }

    private boolean passes(char sign) {
      if (!tokens.isSign(sign)) {
        return refuse(CANNOT_STAND);
      }
      tokens.step();
      return true;
    }

    private int classMarkHere() {
      if (tokens.isWord(FACE)) {
        return Build.FACE;
      }
      if (tokens.isWord(ABSTRACT)) {
        return Build.ABSTRACT;
      }
      return tokens.isWord(FINAL) ? Build.FINAL : 0;
    }

    private int markHere() {
      if (tokens.isWord(STATIC)) {
        return Build.STATIC;
      }
      if (tokens.isWord(HIDDEN)) {
        return Build.HIDDEN;
      }
      if (tokens.isWord(FINAL)) {
        return Build.FINAL;
      }
      return tokens.isWord(ABSTRACT) ? Build.ABSTRACT : 0;
    }

    private int typeHere() {
      if (tokens.sort == Tokens.NAME) {
        return (int) tokens.value;
      }
      if (tokens.isWord(INT)) {
        return INT_TYPE;
      }
      if (tokens.isWord(LONG)) {
        return LONG_TYPE;
      }
      return tokens.isWord(VOID) ? VOID_TYPE : NONE;
    }

    /** "face" is neither in quotes nor a member's mark nor a type in the grammar, so it may be one. */
    private boolean isMemberWordHere() {
      return tokens.sort == Tokens.WORD
          && !tokens.isWord(CLASS)
          && markHere() == 0
          && typeHere() == NONE;
    }
  }

  /** The classes of one BUILD with their members; what follows from them is settled once. */
  private static final class Build {
    static final int CLASS_LIMIT = 16, FACE_LIMIT = 3, MEMBER_LIMIT = 12, TYPE_LIMIT = 2;
    static final int STRIDE = MEMBER_LIMIT + 1;
    static final int STATIC = 1, HIDDEN = 2, FINAL = 4, ABSTRACT = 8, METHOD = 16, CONSTANT = 32, FACE = 64;

    private static final int SPOTS = CLASS_LIMIT * STRIDE;

    int classCount;
    final int[] names = new int[CLASS_LIMIT];
    private final int[] classMarks = new int[CLASS_LIMIT];
    private final int[] aboveNames = new int[CLASS_LIMIT];
    private final int[] faceCounts = new int[CLASS_LIMIT];
    private final int[] faceNames = new int[CLASS_LIMIT * FACE_LIMIT];
    private final int[] memberCounts = new int[CLASS_LIMIT];

    private final int[] memberMarks = new int[SPOTS];
    private final long[] words = new long[SPOTS];
    private final int[] typeCounts = new int[SPOTS];
    private final int[] firsts = new int[SPOTS];
    private final int[] seconds = new int[SPOTS];
    private final int[] numbers = new int[SPOTS];

    private final int[] errors = new int[CLASS_LIMIT];
    // A bit for each class that one comes to by ABOVE and FACES.
    private final int[] reached = new int[CLASS_LIMIT];
    // A class, its FACES each ahead of its own, then what is ABOVE likewise; no class twice.
    private final int[] lines = new int[CLASS_LIMIT * CLASS_LIMIT];
    private final int[] lineCounts = new int[CLASS_LIMIT];

    void addClass(int name, int mark) {
      names[classCount] = name;
      classMarks[classCount] = mark;
      aboveNames[classCount] = 0;
      faceCounts[classCount] = 0;
      memberCounts[classCount] = 0;
      classCount++;
    }

    void setAbove(int name) {
      aboveNames[classCount - 1] = name;
    }

    void addFace(int name) {
      int c = classCount - 1;
      faceNames[c * FACE_LIMIT + faceCounts[c]] = name;
      faceCounts[c]++;
    }

    boolean isFilled() {
      return memberCounts[classCount - 1] >= MEMBER_LIMIT;
    }

    void addMember(int marks, Signature s, int number) {
      int c = classCount - 1;
      memberCounts[c]++;
      int spot = c * STRIDE + memberCounts[c];
      memberMarks[spot] = marks;
      words[spot] = s.word;
      typeCounts[spot] = s.typeCount;
      firsts[spot] = s.first;
      seconds[spot] = s.second;
      numbers[spot] = number;
    }

    int placeOf(int name) {
      for (int c = 0; c < classCount; c++) {
        if (names[c] == name) {
          return c;
        }
      }
      return NONE;
    }

    int errorAt(int c) {
      return c == NONE ? Linker.NO_CLASS : errors[c];
    }

    boolean isFace(int c) {
      return classMarks[c] == FACE;
    }

    boolean isWhole(int c) {
      return classMarks[c] != FACE && classMarks[c] != ABSTRACT;
    }

    boolean isOf(int c, int other) {
      return c == other || (reached[c] >> other & 1) == 1;
    }

    boolean has(int spot, int mark) {
      return (memberMarks[spot] & mark) != 0;
    }

    /** The NUMBER of a CONSTANT; NONE where a FIELD is none. */
    int numberAt(int spot) {
      return numbers[spot];
    }

    int membersWith(int mask, int marks) {
      int seen = 0;
      for (int c = 0; c < classCount; c++) {
        for (int spot = c * STRIDE + 1; spot <= c * STRIDE + memberCounts[c]; spot++) {
          if ((memberMarks[spot] & mask) == marks) {
            seen++;
          }
        }
      }
      return seen;
    }

    int fieldIn(int c, long word) {
      for (int spot = c * STRIDE + 1; spot <= c * STRIDE + memberCounts[c]; spot++) {
        if (words[spot] == word && !has(spot, METHOD)) {
          return spot;
        }
      }
      return NONE;
    }

    int methodIn(int c, Signature s) {
      for (int spot = c * STRIDE + 1; spot <= c * STRIDE + memberCounts[c]; spot++) {
        boolean named = words[spot] == s.word && (memberMarks[spot] & METHOD) != 0;
        if (named && typeCounts[spot] == s.typeCount && firsts[spot] == s.first && seconds[spot] == s.second) {
          return spot;
        }
      }
      return NONE;
    }

    int fieldFrom(int c, long word) {
      for (int i = 0; i < lineCounts[c]; i++) {
        int spot = fieldIn(lines[c * CLASS_LIMIT + i], word);
        if (spot != NONE) {
          return spot;
        }
      }
      return NONE;
    }

    /** The METHOD without any of the marks in a class and what is ABOVE it, FACES left aside. */
    int methodFrom(int c, Signature s, int without) {
      for (int i = 0; i < lineCounts[c]; i++) {
        int at = lines[c * CLASS_LIMIT + i];
        int spot = at == c || !isFace(at) ? methodIn(at, s) : NONE;
        if (spot != NONE && !has(spot, without)) {
          return spot;
        }
      }
      return NONE;
    }

    /** A bit for each FACE of a class that has the METHOD for it, and that no other such one is OF. */
    int nearestFaces(int c, Signature s) {
      int having = 0;
      for (int i = 0; i < lineCounts[c]; i++) {
        int at = lines[c * CLASS_LIMIT + i];
        int spot = isFace(at) ? methodIn(at, s) : NONE;
        if (spot != NONE && !has(spot, STATIC | HIDDEN)) {
          having |= 1 << at;
        }
      }
      int nearest = having;
      for (int at = 0; at < classCount; at++) {
        if ((having >> at & 1) == 1) {
          nearest &= ~reached[at];
        }
      }
      return nearest;
    }

    int withBody(int faces, Signature s) {
      int bodies = 0;
      for (int at = 0; at < classCount; at++) {
        int spot = (faces >> at & 1) == 1 ? methodIn(at, s) : NONE;
        if (spot != NONE && !has(spot, ABSTRACT)) {
          bodies |= 1 << at;
        }
      }
      return bodies;
    }

    int firstMethodOf(int faces, int c, Signature s) {
      for (int i = 0; i < lineCounts[c]; i++) {
        int at = lines[c * CLASS_LIMIT + i];
        if ((faces >> at & 1) == 1) {
          return methodIn(at, s);
        }
      }
      return NONE;
    }

    void settle() {
      traceWays();
      int open = 0;
      for (int c = 0; c < classCount; c++) {
        lineCounts[c] = 0;
        errors[c] = Linker.CIRCLE;
        if ((reached[c] >> c & 1) == 0) {
          open |= 1 << c;
        }
      }
      // Without circles each round finds a class that waits for no open one.
      for (int round = 0; round < classCount && open != 0; round++) {
        for (int c = 0; c < classCount; c++) {
          if ((open >> c & 1) == 1 && (reached[c] & open) == 0) {
            open &= ~(1 << c);
            settleClass(c);
          }
        }
      }
    }

    private void traceWays() {
      for (int c = 0; c < classCount; c++) {
        reached[c] = bitOf(aboveNames[c]);
        for (int k = 0; k < faceCounts[c]; k++) {
          reached[c] |= bitOf(faceNames[c * FACE_LIMIT + k]);
        }
      }
      for (int by = 0; by < classCount; by++) {
        for (int c = 0; c < classCount; c++) {
          if ((reached[c] >> by & 1) == 1) {
            reached[c] |= reached[by];
          }
        }
      }
    }

    private int bitOf(int name) {
      int c = placeOf(name);
      return c == NONE ? 0 : 1 << c;
    }

    private void settleClass(int c) {
      errors[c] = firstError(c);
      if (errors[c] != 0) {
        return;
      }
      lines[c * CLASS_LIMIT] = c;
      lineCounts[c] = 1;
      for (int k = 0; k < faceCounts[c]; k++) {
        joinLine(c, placeOf(faceNames[c * FACE_LIMIT + k]));
      }
      joinLine(c, placeOf(aboveNames[c]));
    }

    private int firstError(int c) {
      if (aboveNames[c] != 0) {
        int above = placeOf(aboveNames[c]);
        if (errorAt(above) != 0) {
          return Linker.NO_DEFINITION;
        }
        if (isFace(above) || isFace(c)) {
          return Linker.INCOMPATIBLE;
        }
        if (classMarks[above] == FINAL) {
          return Linker.FINAL_ABOVE;
        }
      }
      for (int k = 0; k < faceCounts[c]; k++) {
        int face = placeOf(faceNames[c * FACE_LIMIT + k]);
        if (errorAt(face) != 0) {
          return Linker.NO_DEFINITION;
        }
        if (!isFace(face)) {
          return Linker.INCOMPATIBLE;
        }
      }
      return 0;
    }

    /** Sets another class's line behind this one; who stands in it already keeps the place ahead. */
    private void joinLine(int c, int other) {
      if (other == NONE) {
        return;
      }
      for (int i = 0; i < lineCounts[other]; i++) {
        int at = lines[other * CLASS_LIMIT + i];
        if (!isInLine(c, at) && lineCounts[c] < CLASS_LIMIT) {
          lines[c * CLASS_LIMIT + lineCounts[c]] = at;
          lineCounts[c]++;
        }
      }
    }

    private boolean isInLine(int c, int at) {
      for (int i = 0; i < lineCounts[c]; i++) {
        if (lines[c * CLASS_LIMIT + i] == at) {
          return true;
        }
      }
      return false;
    }
  }

  /** Links USES in a BUILD: the answers are spots, or ERRORS as the face tells them. */
  private static final class Linker {
    static final int NO_CLASS = 1, NO_DEFINITION = 2, CIRCLE = 3, INCOMPATIBLE = 4, FINAL_ABOVE = 5;
    static final int ABSTRACT = 6, NO_FIELD = 7, ACCESS = 8, NO_METHOD = 9, ABSTRACT_CALL = 10;

    static int failed(int error) {
      return -10 - error;
    }

    static int linked(Build b, Use u) {
      int caller = b.placeOf(u.caller);
      int owner = b.placeOf(u.owner);
      if (b.errorAt(caller) != 0) {
        return failed(b.errorAt(caller));
      }
      if (owner == NONE) {
        return failed(NO_DEFINITION);
      }
      if (b.errorAt(owner) != 0) {
        return failed(b.errorAt(owner));
      }
      if (u.kind == Use.CAST) {
        return owner * Build.STRIDE;
      }
      if (u.kind == Use.MAKE) {
        return b.isWhole(owner) ? owner * Build.STRIDE : failed(ABSTRACT);
      }
      return u.asksField() ? linkedField(b, u, caller, owner) : linkedMethod(b, u, caller, owner);
    }

    private static int linkedField(Build b, Use u, int caller, int owner) {
      int spot = b.fieldFrom(owner, u.wanted.word);
      if (spot == NONE) {
        return failed(NO_FIELD);
      }
      boolean foreign = classOf(spot) != caller;
      if (foreign && b.has(spot, Build.HIDDEN)) {
        return failed(ACCESS);
      }
      if (b.has(spot, Build.STATIC) != u.asksStatic()) {
        return failed(INCOMPATIBLE);
      }
      if (foreign && u.puts() && b.has(spot, Build.FINAL)) {
        return failed(ACCESS);
      }
      return spot;
    }

    private static int linkedMethod(Build b, Use u, int caller, int owner) {
      if (u.kind == (b.isFace(owner) ? Use.CALL : Use.CALL_FACE)) {
        return failed(INCOMPATIBLE);
      }
      int spot = b.methodFrom(owner, u.wanted, 0);
      if (spot == NONE) {
        spot = foundInFaces(b, u.wanted, owner);
      }
      if (spot == NONE) {
        return failed(NO_METHOD);
      }
      if (classOf(spot) != caller && b.has(spot, Build.HIDDEN)) {
        return failed(ACCESS);
      }
      if (b.has(spot, Build.STATIC) != u.asksStatic()) {
        return failed(INCOMPATIBLE);
      }
      if (u.kind == Use.CALL_ABOVE && b.has(spot, Build.ABSTRACT)) {
        return failed(ABSTRACT_CALL);
      }
      return spot;
    }

    private static int foundInFaces(Build b, Signature s, int owner) {
      int faces = b.nearestFaces(owner, s);
      int bodies = b.withBody(faces, s);
      return b.firstMethodOf(Integer.bitCount(bodies) == 1 ? bodies : faces, owner, s);
    }

    static int performed(Build b, Use u, int spot, int receiver) {
      int place = b.placeOf(receiver);
      if (b.errorAt(place) != 0) {
        return failed(b.errorAt(place));
      }
      if (!b.isOf(place, b.placeOf(u.owner))) {
        return failed(INCOMPATIBLE);
      }
      if (b.has(spot, Build.HIDDEN)) {
        return spot;
      }
      int own = b.methodFrom(place, u.wanted, Build.STATIC | Build.HIDDEN);
      if (own == NONE) {
        return performedByFaces(b, u.wanted, place);
      }
      return b.has(own, Build.ABSTRACT) ? failed(ABSTRACT_CALL) : own;
    }

    private static int performedByFaces(Build b, Signature s, int place) {
      int bodies = b.withBody(b.nearestFaces(place, s), s);
      switch (Integer.bitCount(bodies)) {
        case 0:
          return failed(ABSTRACT_CALL);
        case 1:
          return b.firstMethodOf(bodies, place, s);
        default:
          return failed(INCOMPATIBLE);
      }
    }

    static boolean tellApart(Build one, Build two, Use u) {
      int here = linked(one, u);
      int there = linked(two, u);
      if (here < 0 || there < 0) {
        return here != there;
      }
      return one.names[classOf(here)] != two.names[classOf(there)] || placeIn(here) != placeIn(there);
    }
  }
}
