/** Promises 11 to 16 and 18, with the terms DONE, COPIED and STALE: each sentence with a boundary by itself. */
public final class DoneEdgesTest {
  private static final Checks CHECKS = new Checks();
  private static final int GET = 0, PUT = 1, GET_STATIC = 2, PUT_STATIC = 3;
  private static final int CALL = 4, CALL_STATIC = 5, CALL_ABOVE = 6, CALL_FACE = 7, MAKE = 8, CAST = 9;
  private static final int[] FAR = {-1, 40, 255, 256, Integer.MAX_VALUE, Integer.MIN_VALUE};
  private static final String WRONG = "class W2<Z{}class W3<W3{}class W4<F{}face class F{}class W5<L{}final class L{}";
  private static final String[] WRONG_NAMES = {"Z", "W2", "W3", "W4", "W5"};

  public static void main(String[] args) {
    doneKinds();
    doneLinkFirst();
    doneReceiverDefined();
    doneReceiverOfOwner();
    doneReceiverInOrder();
    doneHidden();
    doneFirstOfClasses();
    donePassesStaticAndHidden();
    doneByTypes();
    doneClassesAheadOfFaces();
    doneOfFacesOfReceiver();
    doneConflict();
    doneNoConflict();
    doneOneBody();
    doneNoneWithBody();
    doneWithoutBody();
    doneOnAnyClass();
    doneMemberPlace();
    doneUnknown();
    compileCopies();
    compileNoConstant();
    compileErrorsChangeNothing();
    compileKind();
    compileUnknown();
    compileInOrder();
    copiedNumber();
    copiedOfEachUse();
    copiedUnknown();
    staleInItsOwnBuild();
    staleByNumber();
    staleWhereItDoesNotLink();
    staleWhereNoConstant();
    staleNothingCopied();
    staleUnknown();
    changedError();
    changedClassByName();
    changedPlace();
    changedNotByNumbers();
    changedMakeAndCast();
    changedEach();
    changedNone();
    changedUnknown();
    shareCut();
    shareOfFortyUses();
    shareAllDo();
    shareNoBuild();
    refusedCallsChangeNothing();
    CHECKS.end();
  }

  /** "DONE on a RECEIVER (a NAME; KINDS 4, 7)", "STATE: KIND" */
  private static void doneKinds() {
    LinkModels x = Checks.model("class A:F{int a();}face class F{int a();}");
    for (int kind = GET; kind <= CAST; kind++) {
      Checks.use(x, kind, "A", kind == CALL_FACE ? "F" : "A", "a");
      int want = kind == CALL || kind == CALL_FACE ? 0 : LinkModels.STATE;
      CHECKS.due("done of kind " + kind, x.done(0, kind, 'A'), want);
      CHECKS.due("doneMember of kind " + kind, x.doneMember(0, kind, 'A'), want);
    }
    // STATE comes ahead of any ERROR.
    for (int kind : new int[] {GET, PUT, GET_STATIC, PUT_STATIC, CALL_STATIC, CALL_ABOVE, MAKE, CAST}) {
      int use = Checks.use(x, kind, "Z", "Z", "z");
      CHECKS.done(x, use, "Z", LinkModels.STATE, 0);
    }
  }

  /** "ERRORS (of LINKING first)" */
  private static void doneLinkFirst() {
    LinkModels x = Checks.model("class A{int a();hidden int b();static int c();}class B{}face class F{}class D<D{}");
    CHECKS.done(x, Checks.use(x, CALL, "Z", "A", "a"), "D", -11, 0);
    CHECKS.done(x, Checks.use(x, CALL, "A", "Z", "a"), "D", -12, 0);
    CHECKS.done(x, Checks.use(x, CALL, "A", "A", "x"), "Z", -19, 0);
    CHECKS.done(x, Checks.use(x, CALL, "B", "A", "b"), "Z", -18, 0);
    CHECKS.done(x, Checks.use(x, CALL, "B", "A", "c"), "Z", -14, 0);
    CHECKS.done(x, Checks.use(x, CALL, "B", "F", "a"), "Z", -14, 0);
    CHECKS.done(x, Checks.use(x, CALL_FACE, "B", "A", "a"), "Z", -14, 0);
    CHECKS.done(x, Checks.use(x, CALL_FACE, "B", "F", "a"), "D", -19, 0);
  }

  /** "the class must be DEFINED (its ERROR)": 1 stays 1. */
  private static void doneReceiverDefined() {
    LinkModels x = Checks.model(WRONG + "class A{int a();hidden int b();}");
    int open = Checks.use(x, CALL, "A", "A", "a");
    int hidden = Checks.use(x, CALL, "A", "A", "b");
    for (int i = 0; i < WRONG_NAMES.length; i++) {
      CHECKS.done(x, open, WRONG_NAMES[i], -11 - i, 0);
      CHECKS.done(x, hidden, WRONG_NAMES[i], -11 - i, 0);
    }
    CHECKS.due("no name", x.done(0, open, 0), -11);
    CHECKS.due("no name", x.done(0, open, -1), -11);
  }

  /** "OF the OWNER (else 4)" */
  private static void doneReceiverOfOwner() {
    LinkModels x = Checks.model("class A:F{int a();}class B<A{}class C{int a();}face class F{int a();hidden int b();}");
    int a = Checks.use(x, CALL, "A", "A", "a");
    CHECKS.done(x, a, "A", 0, 0);
    CHECKS.done(x, a, "B", 0, 0);
    CHECKS.done(x, a, "C", -14, 0);
    CHECKS.done(x, a, "F", -14, 0);
    int below = Checks.use(x, CALL, "A", "B", "a");
    CHECKS.done(x, below, "A", -14, 0);
    int face = Checks.use(x, CALL_FACE, "A", "F", "a");
    CHECKS.done(x, face, "B", 0, 0);
    CHECKS.done(x, face, "C", -14, 0);
    int hidden = Checks.use(x, CALL_FACE, "F", "F", "b");
    CHECKS.done(x, hidden, "C", -14, 0);
  }

  /** "must be DEFINED (its ERROR), OF the OWNER": in this order. */
  private static void doneReceiverInOrder() {
    LinkModels x = Checks.model("class A{int a();}class B<Z{}class C<A:Z{}");
    int a = Checks.use(x, CALL, "A", "A", "a");
    CHECKS.done(x, a, "B", -12, 0);
    CHECKS.done(x, a, "C", -12, 0);
  }

  /** "A hidden METHOD is done itself." */
  private static void doneHidden() {
    LinkModels x = Checks.model("class A{int x;hidden int a();}class B<A{int a();}face class F{hidden int a();}"
        + "class C:F{int a();}class D:F{}");
    int a = Checks.use(x, CALL, "A", "A", "a");
    CHECKS.done(x, a, "A", 0, 1);
    CHECKS.done(x, a, "B", 0, 1);
    int face = Checks.use(x, CALL_FACE, "F", "F", "a");
    CHECKS.done(x, face, "C", 2, 0);
    CHECKS.done(x, face, "D", 2, 0);
  }

  /** "Else: the first .. of WORD and types in the RECEIVER, what is ABOVE, and so on" */
  private static void doneFirstOfClasses() {
    LinkModels x = Checks.model("class A{int a();}class B<A{int x;int a();}class C<B{}class D<C{int a();}");
    int a = Checks.use(x, CALL, "A", "A", "a");
    CHECKS.done(x, a, "A", 0, 0);
    CHECKS.done(x, a, "B", 1, 1);
    CHECKS.done(x, a, "C", 1, 1);
    CHECKS.done(x, a, "D", 3, 0);
    int fromC = Checks.use(x, CALL, "A", "C", "a");
    CHECKS.done(x, fromC, "D", 3, 0);
  }

  /** "the first that is neither static nor hidden" */
  private static void donePassesStaticAndHidden() {
    LinkModels x = Checks.model("class A{int a();int b();}class B<A{static int a();hidden int b();}class C<B{}"
        + "class D<C{hidden static int a();int b();}");
    int a = Checks.use(x, CALL, "A", "A", "a");
    int b = Checks.use(x, CALL, "A", "A", "b");
    CHECKS.done(x, a, "B", 0, 0);
    CHECKS.done(x, b, "B", 0, 1);
    CHECKS.done(x, a, "C", 0, 0);
    CHECKS.done(x, a, "D", 0, 0);
    CHECKS.done(x, b, "D", 3, 1);
  }

  /** "of WORD and types" */
  private static void doneByTypes() {
    LinkModels x = Checks.model("class A{int a(int,A);}class B<A{int a(A,int);int a(int);int a();int b(int,A);}");
    int a = Checks.use(x, CALL, "A", "A", "a", "int", "A");
    CHECKS.done(x, a, "B", 0, 0);
  }

  /** "none: of FACES": behind all classes, even where that of a class has no BODY. */
  private static void doneClassesAheadOfFaces() {
    LinkModels x = Checks.model("face class F{int a();}class A{int a();}class B<A:F{}class C{abstract int a();}"
        + "class D<C:F{}class E:F{static int a();}class G:F{hidden int a();}");
    int a = Checks.use(x, CALL_FACE, "A", "F", "a");
    CHECKS.done(x, a, "B", 1, 0);
    CHECKS.done(x, a, "D", -20, 0);
    // A static or a hidden one of a class is none.
    CHECKS.done(x, a, "E", 0, 0);
    CHECKS.done(x, a, "G", 0, 0);
  }

  /** "of FACES as above, of the RECEIVER" */
  private static void doneOfFacesOfReceiver() {
    LinkModels x = Checks.model("face class F{int a();}face class G:F{int a();}class A:F{}class B<A:G{}class C<B{}"
        + "face class H:G{hidden int a();}class D:H{}face class K:F{static int a();}class E:K{}");
    int a = Checks.use(x, CALL, "A", "A", "a");
    CHECKS.due("it links to F's", x.link(0, a), 0);
    CHECKS.done(x, a, "A", 0, 0);
    CHECKS.done(x, a, "B", 1, 0);
    CHECKS.done(x, a, "C", 1, 0);
    int face = Checks.use(x, CALL_FACE, "A", "F", "a");
    CHECKS.done(x, face, "D", 1, 0);
    CHECKS.done(x, face, "E", 0, 0);
  }

  /** "4 CONFLICT, where two or more have a BODY" */
  private static void doneConflict() {
    LinkModels x = Checks.model("face class F{abstract int a();}face class G:F{int a();}face class H:F{int a();}"
        + "face class K:F{int a();}class A:G,H{}class B:G,H,K{}class C<D:G{}class D:H{}class E<A{int a();}"
        + "face class L:G,H{int a();}class M:G,H,L{}class N:G,G,G{}class O<N:G{}");
    int a = Checks.use(x, CALL_FACE, "F", "F", "a");
    CHECKS.done(x, a, "A", -14, 0);
    CHECKS.done(x, a, "B", -14, 0);
    CHECKS.done(x, a, "C", -14, 0);
    // A METHOD of a class, or of a FACE that is OF both, ends it.
    CHECKS.done(x, a, "E", 8, 0);
    CHECKS.done(x, a, "M", 9, 0);
    // One FACE told more than once is one.
    CHECKS.done(x, a, "N", 1, 0);
    CHECKS.done(x, a, "O", 1, 0);
  }

  /** "of FACES .. of the RECEIVER: 4 CONFLICT": no other FACE makes one. */
  private static void doneNoConflict() {
    LinkModels x = Checks.model("face class X:F{int a();}class A:F{}face class F{int a();}class B<A:X{}");
    int a = Checks.use(x, CALL_FACE, "F", "F", "a");
    CHECKS.done(x, a, "A", 2, 0);
    LinkModels y = Checks.model("face class X{int a();}class A:F{}face class F{int a();}class B<A:X{}");
    int b = Checks.use(y, CALL_FACE, "F", "F", "a");
    CHECKS.done(y, b, "A", 2, 0);
    CHECKS.done(y, b, "B", -14, 0);
  }

  /** "one alone that has: that" */
  private static void doneOneBody() {
    LinkModels x = Checks.model("face class F{abstract int a();}face class G:F{abstract int a();}"
        + "face class H:F{int a();}class A:G,H{}class B:H,G{}class C<D:G{}class D:H{}");
    int a = Checks.use(x, CALL_FACE, "F", "F", "a");
    CHECKS.done(x, a, "A", 2, 0);
    CHECKS.done(x, a, "B", 2, 0);
    CHECKS.done(x, a, "C", 2, 0);
  }

  /** "else 10" */
  private static void doneNoneWithBody() {
    LinkModels x = Checks.model("face class F{int a();}face class G:F{abstract int a();}"
        + "face class H:F{abstract int a();}class A:G{}class B:G,H{}class C:F,G{}");
    int a = Checks.use(x, CALL_FACE, "F", "F", "a");
    CHECKS.done(x, a, "A", -20, 0);
    CHECKS.done(x, a, "B", -20, 0);
    // F's has a BODY, but G, which is OF F, is in place of it.
    CHECKS.done(x, a, "C", -20, 0);
  }

  /** "What has no BODY: 10." */
  private static void doneWithoutBody() {
    LinkModels x = Checks.model("class A{abstract int a();int b();}class B<A{int a();abstract int b();}class C<B{}");
    int a = Checks.use(x, CALL, "A", "A", "a");
    int b = Checks.use(x, CALL, "A", "A", "b");
    CHECKS.done(x, a, "A", -20, 0);
    CHECKS.done(x, a, "C", 1, 0);
    CHECKS.done(x, b, "A", 0, 1);
    CHECKS.done(x, b, "C", -20, 0);
  }

  /** "a RECEIVER (a NAME ..)": a face and an abstract class, too. */
  private static void doneOnAnyClass() {
    LinkModels x = Checks.model("face class F{int a();}abstract class A:F{}final class B:F{}face class G:F{}");
    int a = Checks.use(x, CALL_FACE, "F", "F", "a");
    for (String receiver : new String[] {"F", "A", "B", "G"}) {
      CHECKS.done(x, a, receiver, 0, 0);
    }
  }

  /** "The place of the METHOD done among its class's members." */
  private static void doneMemberPlace() {
    String many = "int a;int b;int c;int d;int e;int f;int g;int h;int i;int j;int k;int a();";
    LinkModels x = Checks.model("class A{int a();}class B<A{" + many + "}face class F{" + many + "}class C:F{}");
    CHECKS.done(x, Checks.use(x, CALL, "A", "A", "a"), "A", 0, 0);
    CHECKS.done(x, Checks.use(x, CALL, "A", "A", "a"), "B", 1, 11);
    CHECKS.done(x, Checks.use(x, CALL_FACE, "A", "F", "a"), "C", 2, 11);
  }

  /** "UNKNOWN" of done and doneMember, ahead of STATE and ERRORS */
  private static void doneUnknown() {
    LinkModels x = Checks.model("class A{int a();}");
    Checks.use(x, CALL, "A", "A", "a");
    Checks.use(x, CAST, "A", "A", "");
    Checks.use(x, CALL, "Z", "Z", "a");
    for (int far : FAR) {
      CHECKS.due("done in " + far, x.done(far, 0, 'A'), LinkModels.UNKNOWN);
      CHECKS.due("done of " + far, x.done(0, far, 'A'), LinkModels.UNKNOWN);
      CHECKS.due("doneMember in " + far, x.doneMember(far, 0, 'A'), LinkModels.UNKNOWN);
      CHECKS.due("doneMember of " + far, x.doneMember(0, far, 'A'), LinkModels.UNKNOWN);
      CHECKS.due("ahead of STATE", x.done(far, 1, 'A'), LinkModels.UNKNOWN);
      CHECKS.due("ahead of ERRORS", x.doneMember(far, 2, 'Z'), LinkModels.UNKNOWN);
    }
    CHECKS.due("done in 1", x.done(1, 0, 'A'), LinkModels.UNKNOWN);
    CHECKS.due("done of 3", x.done(0, 3, 'A'), LinkModels.UNKNOWN);
  }

  /** "1 if a CONSTANT is COPIED into it" */
  private static void compileCopies() {
    LinkModels x = Checks.model("class A<B{static final int a=1;}class B:F{static final int b=2;}"
        + "face class F{static final int c=3;hidden static final int d=4;}");
    for (int i = 0; i < 3; i++) {
      Checks.use(x, GET_STATIC, "A", "A", "abc".substring(i, i + 1));
      CHECKS.due("compile", x.compile(0, i), 1);
      CHECKS.due("copied", x.copied(i), i + 1);
    }
    Checks.use(x, GET_STATIC, "F", "A", "d");
    CHECKS.due("a hidden one by who has it", x.compile(0, 3), 1);
    CHECKS.due("copied", x.copied(3), 4);
    CHECKS.due("once more", x.compile(0, 0), 1);
    CHECKS.due("as it was", x.copied(0), 1);
  }

  /** "0 (what was COPIED goes)" */
  private static void compileNoConstant() {
    LinkModels x = Checks.model("class A{static final int a=0;}", "class A{static final int a;}",
        "class A{static A a;}");
    Checks.use(x, GET_STATIC, "A", "A", "a");
    CHECKS.due("nothing was copied", x.compile(1, 0), 0);
    CHECKS.due("nor is", x.copied(0), LinkModels.NONE);
    for (int b = 1; b <= 2; b++) {
      CHECKS.due("compile", x.compile(0, 0), 1);
      CHECKS.due("copied", x.copied(0), 0);
      CHECKS.due("compile in " + b, x.compile(b, 0), 0);
      CHECKS.due("gone", x.copied(0), LinkModels.NONE);
      CHECKS.due("nothing to be stale", x.stale(0, 0), LinkModels.STATE);
    }
  }

  /** "ERRORS (nothing changes)" */
  private static void compileErrorsChangeNothing() {
    LinkModels x = Checks.model("class A{}class B{static final int a=7;}", "class B{}class A{hidden static int a;}",
        "class B<A{}class A{int a;}", "class A{}", "class A<A{}");
    Checks.use(x, GET_STATIC, "B", "B", "a");
    CHECKS.due("compile", x.compile(0, 0), 1);
    int[] want = {-17, -14, -11, -11};
    for (int b = 1; b <= 4; b++) {
      CHECKS.due("compile in " + b, x.compile(b, 0), want[b - 1]);
      CHECKS.due("still copied", x.copied(0), 7);
    }
    LinkModels y = Checks.model("class A{hidden static final int a=1;}class B<A{}");
    Checks.use(y, GET_STATIC, "B", "B", "a");
    CHECKS.due("no access", y.compile(0, 0), -18);
    CHECKS.due("nothing copied", y.copied(0), LinkModels.NONE);
  }

  /** "A USE of KIND 2", "STATE: KIND" */
  private static void compileKind() {
    LinkModels x = Checks.model("class A{static final int a=1;int a();}");
    for (int kind = GET; kind <= CAST; kind++) {
      Checks.use(x, kind, "A", "A", "a");
      CHECKS.due("compile of kind " + kind, x.compile(0, kind), kind == GET_STATIC ? 1 : LinkModels.STATE);
      CHECKS.due("copied of kind " + kind, x.copied(kind), kind == GET_STATIC ? 1 : LinkModels.NONE);
    }
  }

  /** "UNKNOWN" of compile */
  private static void compileUnknown() {
    LinkModels x = Checks.model("class A{static final int a=1;}");
    Checks.use(x, GET_STATIC, "A", "A", "a");
    for (int far : FAR) {
      CHECKS.due("compile in " + far, x.compile(far, 0), LinkModels.UNKNOWN);
      CHECKS.due("compile of " + far, x.compile(0, far), LinkModels.UNKNOWN);
    }
    CHECKS.due("compile in 1", x.compile(1, 0), LinkModels.UNKNOWN);
    CHECKS.due("compile of 1", x.compile(0, 1), LinkModels.UNKNOWN);
    CHECKS.due("nothing copied", x.copied(0), LinkModels.NONE);
  }

  /** "UNKNOWN; STATE: KIND; ERRORS": in this order. */
  private static void compileInOrder() {
    LinkModels x = Checks.model("class A{}");
    Checks.use(x, GET, "Z", "Z", "a");
    CHECKS.due("unknown", x.compile(1, 0), LinkModels.UNKNOWN);
    CHECKS.due("state", x.compile(0, 0), LinkModels.STATE);
    Checks.use(x, GET_STATIC, "Z", "Z", "a");
    CHECKS.due("unknown", x.compile(1, 1), LinkModels.UNKNOWN);
    CHECKS.due("error", x.compile(0, 1), -11);
  }

  /** "The NUMBER that is COPIED into a USE; NONE." */
  private static void copiedNumber() {
    LinkModels x = Checks.model("class A{static final int a=0;}", "class A{static final int a=999999;}",
        "class A{static final int a=000010;}");
    Checks.use(x, GET_STATIC, "A", "A", "a");
    CHECKS.due("none at first", x.copied(0), LinkModels.NONE);
    int[] want = {0, 999999, 10};
    for (int b = 0; b < 3; b++) {
      CHECKS.due("compile", x.compile(b, 0), 1);
      CHECKS.due("copied", x.copied(0), want[b]);
    }
    // LINKING copies nothing.
    Checks.use(x, GET_STATIC, "A", "A", "a");
    x.link(0, 1);
    CHECKS.due("none by a link", x.copied(1), LinkModels.NONE);
  }

  /** "COPIED into a USE": into that one alone. */
  private static void copiedOfEachUse() {
    LinkModels x = Checks.model("class A{static final int a=1;static final int b=2;}");
    for (int i = 0; i < 40; i++) {
      Checks.use(x, GET_STATIC, "A", "A", i % 2 == 0 ? "a" : "b");
    }
    x.compile(0, 0);
    x.compile(0, 39);
    for (int i = 0; i < 40; i++) {
      CHECKS.due("copied " + i, x.copied(i), i == 0 ? 1 : i == 39 ? 2 : LinkModels.NONE);
    }
  }

  /** "UNKNOWN" of copied */
  private static void copiedUnknown() {
    LinkModels x = Checks.model("class A{}");
    CHECKS.due("no use at all", x.copied(0), LinkModels.UNKNOWN);
    Checks.use(x, CAST, "A", "A", "");
    for (int far : FAR) {
      CHECKS.due("copied of " + far, x.copied(far), LinkModels.UNKNOWN);
    }
    CHECKS.due("copied of 1", x.copied(1), LinkModels.UNKNOWN);
  }

  /** "STALE in another BUILD": never in that where it was COMPILED. */
  private static void staleInItsOwnBuild() {
    LinkModels x = Checks.model("class A{static final int a=0;}", "class A{static final int a=1;}");
    Checks.use(x, GET_STATIC, "A", "A", "a");
    for (int b = 0; b < 2; b++) {
      x.compile(b, 0);
      CHECKS.due("in its own", x.stale(b, 0), 0);
      CHECKS.due("in the other", x.stale(1 - b, 0), 1);
    }
  }

  /** "if it does not LINK there to a CONSTANT of that NUMBER": the class and the place do not count. */
  private static void staleByNumber() {
    LinkModels x = Checks.model("class A{static final int a=7;}",
        "class A<B{}class B{int x;static final int a=000007;}",
        "class A{static final int a=70;}", "class A{static final int a=0;}",
        "class A:F{}face class F{static final int a=7;}");
    Checks.use(x, GET_STATIC, "A", "A", "a");
    x.compile(0, 0);
    int[] want = {0, 0, 1, 1, 0};
    for (int b = 0; b < want.length; b++) {
      CHECKS.due("stale in " + b, x.stale(b, 0), want[b]);
    }
  }

  /** "if it does not LINK there" */
  private static void staleWhereItDoesNotLink() {
    LinkModels x = Checks.model("class A{}class B{static final int a=7;}", "class A{}class B{}", "class A{}",
        "class B{static final int a=7;}", "class A{}class B{hidden static final int a=7;}");
    Checks.use(x, GET_STATIC, "A", "B", "a");
    x.compile(0, 0);
    for (int b = 1; b < 5; b++) {
      CHECKS.due("stale in " + b, x.stale(b, 0), 1);
      CHECKS.due("it is still copied", x.copied(0), 7);
    }
  }

  /** "to a CONSTANT" */
  private static void staleWhereNoConstant() {
    LinkModels x = Checks.model("class A{static final int a=0;}", "class A{static final int a;}",
        "class A{static int a;}", "class A{int a;}");
    Checks.use(x, GET_STATIC, "A", "A", "a");
    x.compile(0, 0);
    for (int b = 1; b < 4; b++) {
      CHECKS.due("stale in " + b, x.stale(b, 0), 1);
    }
  }

  /** "STATE: nothing is COPIED" */
  private static void staleNothingCopied() {
    LinkModels x = Checks.model("class A{static final int a=0;static int b;}", "class A{static int a;}");
    for (int kind = GET; kind <= CAST; kind++) {
      Checks.use(x, kind, "A", "A", "a");
      CHECKS.due("stale of kind " + kind, x.stale(0, kind), LinkModels.STATE);
    }
    x.compile(0, GET_STATIC);
    CHECKS.due("stale", x.stale(0, GET_STATIC), 0);
    x.compile(1, GET_STATIC);
    CHECKS.due("what was copied is gone", x.stale(0, GET_STATIC), LinkModels.STATE);
    CHECKS.due("ahead of ERRORS", x.stale(0, Checks.use(x, GET_STATIC, "Z", "Z", "a")), LinkModels.STATE);
  }

  /** "UNKNOWN" of stale, ahead of STATE */
  private static void staleUnknown() {
    LinkModels x = Checks.model("class A{static final int a=0;}");
    Checks.use(x, GET_STATIC, "A", "A", "a");
    Checks.use(x, GET, "A", "A", "a");
    x.compile(0, 0);
    for (int far : FAR) {
      CHECKS.due("stale in " + far, x.stale(far, 0), LinkModels.UNKNOWN);
      CHECKS.due("stale of " + far, x.stale(0, far), LinkModels.UNKNOWN);
      CHECKS.due("ahead of STATE", x.stale(far, 1), LinkModels.UNKNOWN);
    }
    CHECKS.due("stale in 1", x.stale(1, 0), LinkModels.UNKNOWN);
    CHECKS.due("stale of 2", x.stale(0, 2), LinkModels.UNKNOWN);
  }

  /** Whether the one use of a kind is told apart by two texts, asked both ways. */
  private static void apart(int want, String one, String two, int kind, String caller, String owner, String word) {
    LinkModels x = Checks.model(one, two);
    Checks.use(x, kind, caller, owner, word);
    String what = one + " and " + two + " kind " + kind;
    CHECKS.due(what, x.changed(0, 1, 0), want == 1 ? 0 : LinkModels.NONE);
    CHECKS.due(what + " back", x.changed(1, 0, 0), want == 1 ? 0 : LinkModels.NONE);
  }

  /** "that two BUILDS tell apart: another ERROR" */
  private static void changedError() {
    apart(1, "class A{int a;}", "class A{}", GET, "A", "A", "a");
    apart(1, "class A{static int a;}", "class A{}", GET, "A", "A", "a");
    apart(1, "class A{}", "class A<A{}", CAST, "A", "A", "a");
    apart(1, "", "class A<A{}", CAST, "A", "A", "a");
    apart(0, "", "", CAST, "A", "A", "a");
    apart(0, "class A{}", "class A{int b;}", GET, "A", "A", "a");
    // The same ERROR by another cause is none other.
    apart(0, "class A{static int a;}", "face class A<B{}class B{}", GET, "A", "A", "a");
    apart(0, "class A<Z{}", "class A:Z{}", CAST, "A", "A", "");
  }

  /** "or a member of another class (by NAME)" */
  private static void changedClassByName() {
    apart(1, "class A<B{int a;}class B{}", "class A<B{}class B{int a;}", GET, "A", "A", "a");
    apart(1, "class A<B{int a;}class B{}", "class B{int a;}class A<B{}", GET, "A", "A", "a");
    apart(0, "class A<B{}class B{int a;}", "class B{int a;}class A<B{}", GET, "A", "A", "a");
    apart(1, "class A{}class C{int a();}class B<C{}", "class A{}class D{int a();}class B<D{}", CALL, "A", "B", "a");
  }

  /** "another one by its place" */
  private static void changedPlace() {
    apart(1, "class A{int a;}", "class A{int b;int a;}", GET, "A", "A", "a");
    apart(1, "class A{int b();int a();}", "class A{int a();int b();}", CALL, "A", "A", "a");
    apart(0, "class A{int a;}", "class A{long a;int b;}", GET, "A", "A", "a");
  }

  /** What is not named is told apart by nothing: a NUMBER, a type, a mark that LINKS as well. */
  private static void changedNotByNumbers() {
    apart(0, "class A{static final int a=1;}", "class A{static final int a=2;}", GET_STATIC, "A", "A", "a");
    apart(0, "class A{static final int a=1;}", "class A{static long a;}", GET_STATIC, "A", "A", "a");
    apart(0, "class A{int a();}", "abstract class A{abstract void a();}", CALL, "A", "A", "a");
  }

  /** KINDS 8, 9 have no member: the OWNER has one NAME, wherever it stands. */
  private static void changedMakeAndCast() {
    apart(0, "class A{}class B{}", "class B{}class A{}", MAKE, "B", "A", "");
    apart(0, "class A{}class B{}", "class B{}face class A{}", CAST, "B", "A", "");
    apart(1, "class A{}class B{}", "class B{}face class A{}", MAKE, "B", "A", "");
  }

  /** "The i-th USE (from 0)" */
  private static void changedEach() {
    LinkModels x = Checks.model("class A{int a;int b;}", "class A{int a;}");
    for (int i = 0; i < 40; i++) {
      Checks.use(x, GET, "A", "A", i % 2 == 0 ? "a" : "b");
    }
    for (int i = 0; i < 20; i++) {
      CHECKS.due("changed " + i, x.changed(0, 1, i), 2 * i + 1);
    }
    CHECKS.due("no more", x.changed(0, 1, 20), LinkModels.NONE);
    LinkModels y = Checks.model("class A{}", "");
    for (int i = 0; i < 40; i++) {
      Checks.use(y, CAST, "A", "A", "");
    }
    CHECKS.due("the first", y.changed(0, 1, 0), 0);
    CHECKS.due("the last", y.changed(0, 1, 39), 39);
    CHECKS.due("none behind it", y.changed(0, 1, 40), LinkModels.NONE);
  }

  /** "NONE" of changed */
  private static void changedNone() {
    LinkModels x = Checks.model("class A{}", "");
    CHECKS.due("without uses", x.changed(0, 1, 0), LinkModels.NONE);
    Checks.use(x, CAST, "A", "A", "");
    CHECKS.due("there is one", x.changed(0, 1, 0), 0);
    CHECKS.due("a build and itself", x.changed(0, 0, 0), LinkModels.NONE);
    for (int i : new int[] {1, -1, 40, Integer.MAX_VALUE, Integer.MIN_VALUE}) {
      CHECKS.due("changed " + i, x.changed(0, 1, i), LinkModels.NONE);
    }
  }

  /** "UNKNOWN" of changed: of either BUILD. */
  private static void changedUnknown() {
    LinkModels x = Checks.model("class A{}");
    Checks.use(x, CAST, "A", "A", "");
    for (int far : FAR) {
      CHECKS.due("changed in " + far, x.changed(far, 0, 0), LinkModels.UNKNOWN);
      CHECKS.due("changed against " + far, x.changed(0, far, 0), LinkModels.UNKNOWN);
      CHECKS.due("ahead of NONE", x.changed(far, far, -1), LinkModels.UNKNOWN);
    }
    CHECKS.due("changed in 1", x.changed(1, 0, 0), LinkModels.UNKNOWN);
    CHECKS.due("changed against 1", x.changed(0, 1, 0), LinkModels.UNKNOWN);
  }

  private static LinkModels withUses(int good, int bad) {
    LinkModels x = Checks.model("class A{}");
    for (int i = 0; i < good; i++) {
      Checks.use(x, CAST, "A", "A", "");
    }
    for (int i = 0; i < bad; i++) {
      Checks.use(x, CAST, "A", "B", "");
    }
    return x;
  }

  /** "USES that LINK in a BUILD by those that do not, cut." */
  private static void shareCut() {
    int[][] told = {{0, 1, 0}, {1, 1, 1}, {1, 2, 0}, {2, 1, 2}, {3, 2, 1}, {2, 3, 0}, {7, 4, 1}, {8, 4, 2}, {0, 40, 0}};
    for (int[] t : told) {
      CHECKS.due(t[0] + " by " + t[1], Checks.share(withUses(t[0], t[1]), 0), 1000 + t[2]);
    }
  }

  /** "40 at most": 39 by 1 is the largest share. */
  private static void shareOfFortyUses() {
    CHECKS.due("39 by 1", Checks.share(withUses(39, 1), 0), 1039);
    CHECKS.due("1 by 39", Checks.share(withUses(1, 39), 0), 1000);
    CHECKS.due("20 by 20", Checks.share(withUses(20, 20), 0), 1001);
    CHECKS.due("40 by 0", Checks.share(withUses(40, 0), 0), 2);
  }

  /** "ArithmeticException: all do." */
  private static void shareAllDo() {
    CHECKS.due("all", Checks.share(withUses(1, 0), 0), 2);
    // Of no USES none is without a LINK.
    CHECKS.due("no uses", Checks.share(withUses(0, 0), 0), 2);
    LinkModels x = withUses(1, 0);
    Checks.share(x, 0);
    Checks.use(x, CAST, "A", "B", "");
    CHECKS.due("afterwards one does not", Checks.share(x, 0), 1001);
  }

  /** "IllegalArgumentException: there is no such BUILD": ahead of the other one. */
  private static void shareNoBuild() {
    LinkModels x = withUses(1, 0);
    for (int far : FAR) {
      CHECKS.due("share of " + far, Checks.share(x, far), 1);
    }
    CHECKS.due("share of 1", Checks.share(x, 1), 1);
    CHECKS.due("share without builds", Checks.share(new LinkModels(), 0), 1);
  }

  /** "they change nothing": answers below 0 and calls that only ask. */
  private static void refusedCallsChangeNothing() {
    LinkModels x = Checks.model("class A{static final int a=5;}", "class A{}");
    Checks.use(x, GET_STATIC, "A", "A", "a");
    x.compile(0, 0);
    Checks.feed(x, "class B");
    x.use(10, 'A', 'A', 'a', 0, 0, 0);
    x.use(0, 'A', 'A', 'a', 3, 0, 0);
    x.compile(5, 0);
    x.compile(0, 1);
    x.compile(1, 0);
    x.link(1, 0);
    x.member(1, 0);
    x.done(0, 0, 'A');
    x.doneMember(0, 0, 'A');
    x.stale(1, 0);
    x.changed(0, 1, 0);
    x.defined(0, 'B');
    x.is(0, 'A', 'B');
    x.count(0, 4);
    x.name(0, 1);
    x.told(3);
    Checks.share(x, 0);
    Checks.share(x, 2);
    CHECKS.due("bytes", x.told(0), 7);
    CHECKS.due("builds", x.told(1), 2);
    CHECKS.due("uses", x.told(2), 1);
    CHECKS.due("copied", x.copied(0), 5);
    CHECKS.due("the tape goes on", Checks.build(x, "{}"), 2);
    CHECKS.due("as it was fed", x.name(2, 0), 'B');
  }
}
