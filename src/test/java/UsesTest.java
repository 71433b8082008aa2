/** Promises 8 to 16 and 18: USES, where they LINK, what is DONE, COPIED, STALE, CHANGED, and the share. */
public final class UsesTest {
  private static final Checks CHECKS = new Checks();

  private static final int GET = 0, PUT = 1, GET_STATIC = 2, PUT_STATIC = 3;
  private static final int CALL = 4, CALL_STATIC = 5, CALL_ABOVE = 6, CALL_FACE = 7, MAKE = 8, CAST = 9;

  public static void main(String[] args) {
    uses();
    unknowns();
    linkedClasses();
    makes();
    fields();
    fieldAccess();
    methods();
    methodTypes();
    methodAccess();
    methodsOfFaces();
    calledAbove();
    doneByClasses();
    doneByFaces();
    compiles();
    stale();
    changed();
    share();
    manyWays();
    CHECKS.end();
  }

  private static void uses() {
    LinkModels x = new LinkModels();
    CHECKS.due("kind -1", x.use(-1, 65, 65, 0, 0, 0, 0), LinkModels.OUTSIDE);
    CHECKS.due("kind 10", x.use(10, 65, 65, 0, 0, 0, 0), LinkModels.OUTSIDE);
    CHECKS.due("n -1", x.use(0, 65, 65, 0, -1, 0, 0), LinkModels.OUTSIDE);
    CHECKS.due("n 3", x.use(9, 65, 65, 0, 3, 0, 0), LinkModels.OUTSIDE);
    CHECKS.due("told 2", x.told(2), 0);
    for (int i = 0; i < 40; i++) {
      CHECKS.due("use " + i, x.use(i % 10, -i, i, -1L, i % 3, -5, Integer.MIN_VALUE), i);
    }
    CHECKS.due("use 40", x.use(0, 65, 65, 0, 0, 0, 0), LinkModels.FULL);
    CHECKS.due("outside before full", x.use(10, 65, 65, 0, 0, 0, 0), LinkModels.OUTSIDE);
    CHECKS.due("told 2", x.told(2), 40);
    CHECKS.due("use 39 is there", x.copied(39), LinkModels.NONE);
    CHECKS.due("use 40 is not", x.copied(40), LinkModels.UNKNOWN);
    CHECKS.due("a build without classes", x.build(), 0);
    CHECKS.due("link in it", x.link(0, 39), -11);
  }

  private static void unknowns() {
    LinkModels x = Checks.model("class A{static final int a=1;}");
    Checks.use(x, GET_STATIC, "A", "A", "a");
    int[][] wrong = {{1, 0}, {-1, 0}, {0, 1}, {0, -1}, {5, 40}};
    for (int[] w : wrong) {
      CHECKS.due("link", x.link(w[0], w[1]), LinkModels.UNKNOWN);
      CHECKS.due("member", x.member(w[0], w[1]), LinkModels.UNKNOWN);
      CHECKS.due("done", x.done(w[0], w[1], 65), LinkModels.UNKNOWN);
      CHECKS.due("doneMember", x.doneMember(w[0], w[1], 65), LinkModels.UNKNOWN);
      CHECKS.due("compile", x.compile(w[0], w[1]), LinkModels.UNKNOWN);
      CHECKS.due("stale", x.stale(w[0], w[1]), LinkModels.UNKNOWN);
    }
    CHECKS.due("changed", x.changed(0, 1, 0), LinkModels.UNKNOWN);
    CHECKS.due("changed", x.changed(-1, 0, 0), LinkModels.UNKNOWN);
    CHECKS.due("copied", x.copied(1), LinkModels.UNKNOWN);
    CHECKS.due("copied", x.copied(-1), LinkModels.UNKNOWN);
  }

  private static void linkedClasses() {
    String text = "class A{}class B<C{}class D<D{}class E<F{}face class F{}class G<H{}final class H{}";
    for (int kind = GET; kind <= CAST; kind++) {
      CHECKS.fails(text, 1, kind, "Z", "B", "a");
      CHECKS.fails(text, 2, kind, "B", "D", "a");
      CHECKS.fails(text, 3, kind, "D", "B", "a");
      CHECKS.fails(text, 4, kind, "E", "B", "a");
      CHECKS.fails(text, 5, kind, "G", "B", "a");
      CHECKS.fails(text, 2, kind, "A", "Z", "a");
      CHECKS.fails(text, 2, kind, "A", "B", "a");
      CHECKS.fails(text, 3, kind, "A", "D", "a");
      CHECKS.fails(text, 4, kind, "A", "E", "a");
      CHECKS.fails(text, 5, kind, "A", "G", "a");
    }
  }

  private static void makes() {
    String text = "class A{}abstract class B{}face class F{}final class C{}";
    CHECKS.links(text, 0, -1, MAKE, "B", "A", "");
    CHECKS.links(text, 3, -1, MAKE, "F", "C", "x", "int", "int");
    CHECKS.fails(text, 6, MAKE, "A", "B", "");
    CHECKS.fails(text, 6, MAKE, "A", "F", "");
    CHECKS.links(text, 1, -1, CAST, "A", "B", "");
    CHECKS.links(text, 2, -1, CAST, "A", "F", "");
    CHECKS.links(text, 0, -1, CAST, "A", "A", "x");
  }

  private static void fields() {
    // Own, then FACES each with its own, then what is ABOVE.
    String text = "class A<B:F,G{int a;}class B:K{int a;int e;int d;}"
        + "face class F:H{static int b;}face class G{static int b;static int c;static int d;}"
        + "face class H{static int c;}face class K{static int e;static int f;static int d;}class X{}";
    CHECKS.links(text, 0, 0, GET, "X", "A", "a");
    CHECKS.links(text, 1, 0, GET, "X", "B", "a");
    CHECKS.links(text, 2, 0, GET_STATIC, "X", "A", "b");
    CHECKS.links(text, 4, 0, GET_STATIC, "X", "A", "c");
    CHECKS.links(text, 3, 2, GET_STATIC, "X", "A", "d");
    CHECKS.links(text, 1, 1, PUT, "X", "A", "e");
    CHECKS.links(text, 5, 1, PUT_STATIC, "X", "A", "f");
    CHECKS.links(text, 4, 0, GET_STATIC, "X", "F", "c");
    CHECKS.fails(text, 7, GET, "X", "H", "b");
    CHECKS.fails(text, 7, GET, "X", "A", "x");
    CHECKS.fails(text, 7, GET_STATIC, "A", "X", "a");
    CHECKS.fails("class A{int a();}", 7, GET, "A", "A", "a");
    // Types of a USE of a FIELD do not count.
    CHECKS.links(text, 0, 0, GET, "X", "A", "a", "int", "long");
  }

  private static void fieldAccess() {
    String text = "class A{hidden int a;hidden static int b;int c;static int d;final int e;static final int f;"
        + "static final int g=1;hidden final int h;}class B<A{}";
    CHECKS.links(text, 0, 0, GET, "A", "B", "a");
    CHECKS.fails(text, 8, GET, "B", "A", "a");
    CHECKS.fails(text, 8, GET, "B", "B", "a");
    CHECKS.fails(text, 8, GET_STATIC, "B", "A", "a");
    CHECKS.fails(text, 8, GET, "B", "A", "b");
    CHECKS.fails(text, 4, GET_STATIC, "A", "A", "a");
    CHECKS.fails(text, 4, GET, "A", "A", "b");
    CHECKS.fails(text, 4, GET_STATIC, "B", "A", "c");
    CHECKS.fails(text, 4, PUT_STATIC, "B", "A", "c");
    CHECKS.fails(text, 4, GET, "B", "A", "d");
    CHECKS.fails(text, 4, PUT, "B", "A", "d");
    CHECKS.links(text, 0, 3, PUT_STATIC, "B", "B", "d");
    CHECKS.links(text, 0, 4, GET, "B", "A", "e");
    CHECKS.fails(text, 8, PUT, "B", "A", "e");
    CHECKS.fails(text, 4, PUT_STATIC, "B", "A", "e");
    CHECKS.links(text, 0, 4, PUT, "A", "B", "e");
    CHECKS.fails(text, 8, PUT_STATIC, "B", "A", "f");
    CHECKS.fails(text, 4, PUT, "B", "A", "f");
    CHECKS.links(text, 0, 5, PUT_STATIC, "A", "A", "f");
    CHECKS.fails(text, 8, PUT_STATIC, "B", "A", "g");
    CHECKS.links(text, 0, 6, PUT_STATIC, "A", "A", "g");
    CHECKS.fails(text, 8, PUT, "B", "A", "h");
    // A hidden one is found ahead of what is behind it.
    CHECKS.fails("class A:F{}face class F{hidden int a;}class B<A{}", 8, GET, "B", "B", "a");
    CHECKS.fails("class A{int a;}class B<A{hidden int a;}", 8, GET, "A", "B", "a");
  }

  private static void methods() {
    String text = "class A<B{int a();}class B:F{int a();int b();abstract int c();}"
        + "face class F:G{int b();int d();}face class G{int d();int e();abstract int f();}class X{}";
    CHECKS.links(text, 0, 0, CALL, "X", "A", "a");
    CHECKS.links(text, 1, 0, CALL, "X", "B", "a");
    CHECKS.links(text, 1, 1, CALL, "X", "A", "b");
    CHECKS.links(text, 1, 2, CALL, "X", "A", "c");
    CHECKS.links(text, 2, 1, CALL, "X", "A", "d");
    CHECKS.links(text, 3, 1, CALL, "X", "A", "e");
    CHECKS.links(text, 3, 2, CALL, "X", "A", "f");
    CHECKS.fails(text, 9, CALL, "X", "A", "x");
    CHECKS.links(text, 2, 1, CALL_FACE, "X", "F", "d");
    CHECKS.links(text, 3, 1, CALL_FACE, "X", "F", "e");
    CHECKS.fails(text, 9, CALL_FACE, "X", "F", "a");
    CHECKS.fails(text, 9, CALL_FACE, "X", "G", "b");
    // The KIND is looked at before the METHOD is looked for.
    CHECKS.fails(text, 4, CALL, "X", "F", "x");
    CHECKS.fails(text, 4, CALL_FACE, "X", "A", "x");
    CHECKS.fails(text, 9, CALL_STATIC, "X", "F", "x");
    CHECKS.fails(text, 9, CALL_ABOVE, "X", "F", "x");
    CHECKS.fails("class A{int a;}", 9, CALL, "A", "A", "a");
  }

  private static void methodTypes() {
    String text = "class A{int a();int a(int);int a(long);int a(A);int a(int,int);int a(int,long);int a(B,A);}";
    CHECKS.links(text, 0, 0, CALL, "A", "A", "a");
    CHECKS.links(text, 0, 1, CALL, "A", "A", "a", "int");
    CHECKS.links(text, 0, 2, CALL, "A", "A", "a", "long");
    CHECKS.links(text, 0, 3, CALL, "A", "A", "a", "A");
    CHECKS.links(text, 0, 4, CALL, "A", "A", "a", "int", "int");
    CHECKS.links(text, 0, 5, CALL, "A", "A", "a", "int", "long");
    CHECKS.links(text, 0, 6, CALL, "A", "A", "a", "B", "A");
    CHECKS.fails(text, 9, CALL, "A", "A", "a", "B");
    CHECKS.fails(text, 9, CALL, "A", "A", "a", "A", "B");
    CHECKS.fails(text, 9, CALL, "A", "A", "a", "long", "int");
    LinkModels x = Checks.model(text);
    x.use(CALL, 65, 65, 'a', 1, 2, 0);
    CHECKS.due("void is no type of a use", x.link(0, 0), -19);
    x.use(CALL, 65, 65, 'a', 1, -1, 0);
    CHECKS.due("a type that is no name", x.link(0, 1), -19);
    x.use(CALL, 65, 65, 'a', 0, 1, 1);
    CHECKS.due("types behind n are not looked at", x.member(0, 2), 0);
    x.use(CALL, 65, 65, 'a', 1, 1, 1);
    CHECKS.due("types behind n are not looked at", x.member(0, 3), 2);
  }

  private static void methodAccess() {
    String text = "class A{hidden int a();hidden static int b();static int c();int d();}class B<A:F{}"
        + "face class F{hidden int a();static int e();hidden int f();int g();}";
    CHECKS.links(text, 0, 0, CALL, "A", "B", "a");
    CHECKS.fails(text, 8, CALL, "B", "B", "a");
    CHECKS.fails(text, 8, CALL_STATIC, "B", "B", "a");
    CHECKS.fails(text, 4, CALL_STATIC, "A", "B", "a");
    CHECKS.fails(text, 8, CALL, "B", "A", "b");
    CHECKS.fails(text, 4, CALL, "A", "A", "b");
    CHECKS.links(text, 0, 1, CALL_STATIC, "A", "A", "b");
    CHECKS.links(text, 0, 2, CALL_STATIC, "B", "B", "c");
    CHECKS.fails(text, 4, CALL, "B", "B", "c");
    CHECKS.fails(text, 4, CALL_ABOVE, "B", "B", "c");
    CHECKS.fails(text, 4, CALL_STATIC, "B", "B", "d");
    // In a face itself all are found, but not from what has it.
    CHECKS.links(text, 2, 1, CALL_STATIC, "A", "F", "e");
    CHECKS.fails(text, 4, CALL_FACE, "A", "F", "e");
    CHECKS.fails(text, 9, CALL_STATIC, "A", "B", "e");
    CHECKS.fails(text, 8, CALL_FACE, "A", "F", "f");
    CHECKS.links(text, 2, 2, CALL_FACE, "F", "F", "f");
    CHECKS.fails(text, 9, CALL, "F", "B", "f");
    CHECKS.links(text, 2, 3, CALL, "A", "B", "g");
  }

  private static void methodsOfFaces() {
    String two = "face class F{abstract int a();int b();int c();abstract int d();}"
        + "face class G{int a();abstract int b();int c();abstract int d();}class X:F,G{}class Y:G,F{}";
    CHECKS.links(two, 1, 0, CALL, "X", "X", "a");
    CHECKS.links(two, 0, 1, CALL, "X", "Y", "b");
    CHECKS.links(two, 0, 2, CALL, "X", "X", "c");
    CHECKS.links(two, 1, 2, CALL, "X", "Y", "c");
    CHECKS.links(two, 0, 3, CALL, "X", "X", "d");
    CHECKS.links(two, 1, 3, CALL, "X", "Y", "d");
    // What another such FACE is OF is out, even where the nearer one has no BODY.
    String near = "face class F{int a();}face class G:F{abstract int a();}face class H:G{}class X:F,H{}class Y:F{}"
        + "class Z<Y:H{}face class K{int a();}class W:F,G,K{}";
    CHECKS.links(near, 1, 0, CALL, "X", "X", "a");
    CHECKS.links(near, 1, 0, CALL_FACE, "X", "H", "a");
    CHECKS.links(near, 1, 0, CALL, "X", "Z", "a");
    CHECKS.links(near, 6, 0, CALL, "X", "W", "a");
    // A hidden or a static one of a nearer FACE is none.
    String hidden = "face class F{int a();int b();}face class G:F{hidden int a();static int b();}class X:G{}";
    CHECKS.links(hidden, 0, 0, CALL, "X", "X", "a");
    CHECKS.links(hidden, 0, 1, CALL, "X", "X", "b");
    CHECKS.fails(hidden, 4, CALL_FACE, "X", "G", "b");
    // FACE by FACE: of the OWNER, each ahead of its own, then of what is ABOVE.
    String order = "face class A{abstract int m();}face class B{abstract int m();abstract int n();}face class C:B{}"
        + "face class D{abstract int m();abstract int n();}class X:A{}class Y<X:C,D{}class Z<X:D,C{}";
    CHECKS.links(order, 1, 0, CALL, "X", "Y", "m");
    CHECKS.links(order, 3, 0, CALL, "X", "Z", "m");
    CHECKS.links(order, 1, 1, CALL, "X", "Y", "n");
    CHECKS.links(order, 0, 0, CALL, "X", "X", "m");
    // A class ABOVE comes before any FACE.
    String above = "face class F{int a();}class X{int a();}class Y<X:F{}";
    CHECKS.links(above, 1, 0, CALL, "X", "Y", "a");
  }

  private static void calledAbove() {
    String text = "class A{abstract int a();int b();hidden int c();}class B<A:F,G{}"
        + "face class F{abstract int d();int e();}face class G{abstract int d();int e();}";
    CHECKS.fails(text, 10, CALL_ABOVE, "B", "B", "a");
    CHECKS.links(text, 0, 1, CALL_ABOVE, "B", "B", "b");
    CHECKS.fails(text, 8, CALL_ABOVE, "B", "B", "c");
    CHECKS.fails(text, 10, CALL_ABOVE, "B", "B", "d");
    CHECKS.links(text, 2, 1, CALL_ABOVE, "B", "B", "e");
    CHECKS.links(text, 2, 1, CALL_ABOVE, "B", "F", "e");
    CHECKS.links(text, 0, 0, CALL, "B", "B", "a");
  }

  private static void doneByClasses() {
    LinkModels x = Checks.model("class A{int x;int a();hidden int b();int c();abstract int d();}"
        + "class B<A{int a();int b();static int c();abstract int d();}class C<B{hidden int a();int c();int d();}"
        + "class D{}class E<Z{}class G<G{}");
    int a = Checks.use(x, CALL, "A", "A", "a");
    CHECKS.done(x, a, "A", 0, 1);
    CHECKS.done(x, a, "B", 1, 0);
    // A hidden one of the same WORD is passed over.
    CHECKS.done(x, a, "C", 1, 0);
    CHECKS.done(x, a, "D", -14, 0);
    CHECKS.done(x, a, "E", -12, 0);
    CHECKS.done(x, a, "G", -13, 0);
    CHECKS.done(x, a, "Z", -11, 0);
    int b = Checks.use(x, CALL, "A", "A", "b");
    CHECKS.done(x, b, "C", 0, 2);
    CHECKS.done(x, b, "D", -14, 0);
    int c = Checks.use(x, CALL, "A", "A", "c");
    CHECKS.done(x, c, "B", 0, 3);
    CHECKS.done(x, c, "C", 2, 1);
    int d = Checks.use(x, CALL, "A", "A", "d");
    CHECKS.done(x, d, "A", -20, 0);
    CHECKS.done(x, d, "B", -20, 0);
    CHECKS.done(x, d, "C", 2, 2);
    int e = Checks.use(x, CALL, "A", "B", "a");
    CHECKS.done(x, e, "A", -14, 0);
    int f = Checks.use(x, CALL, "D", "A", "b");
    CHECKS.done(x, f, "Z", -18, 0);
    int[] others = {GET, PUT, GET_STATIC, PUT_STATIC, CALL_STATIC, CALL_ABOVE, MAKE, CAST};
    for (int kind : others) {
      int use = Checks.use(x, kind, "Z", "A", "a");
      CHECKS.done(x, use, "A", LinkModels.STATE, 0);
      CHECKS.due("unknown first", x.done(1, use, 65), LinkModels.UNKNOWN);
    }
  }

  private static void doneByFaces() {
    LinkModels x = Checks.model("face class F{int a();abstract int b();}face class G:F{abstract int a();int b();}"
        + "face class H:F{int a();}class A:F{}class B:G{}class C:G,H{}class D<A:H{}class E<A{int a();}"
        + "class K:H,L{}face class L:F{int a();}class M<K{hidden int a();}class N<M{abstract int a();}"
        + "face class O:F{hidden int a();static int b();}");
    int a = Checks.use(x, CALL_FACE, "A", "F", "a");
    CHECKS.done(x, a, "A", 0, 0);
    // G's has no BODY, and is nearer than F's.
    CHECKS.done(x, a, "B", -20, 0);
    // Of G and H, none OF the other, H alone has a BODY.
    CHECKS.done(x, a, "C", 2, 0);
    CHECKS.done(x, a, "D", 2, 0);
    CHECKS.done(x, a, "E", 7, 0);
    CHECKS.done(x, a, "K", -14, 0);
    CHECKS.done(x, a, "M", -14, 0);
    CHECKS.done(x, a, "N", -20, 0);
    // A face may be asked for what is done on it, too.
    CHECKS.done(x, a, "F", 0, 0);
    CHECKS.done(x, a, "G", -20, 0);
    CHECKS.done(x, a, "O", 0, 0);
    int b = Checks.use(x, CALL_FACE, "A", "F", "b");
    CHECKS.done(x, b, "A", -20, 0);
    CHECKS.done(x, b, "B", 1, 1);
    CHECKS.done(x, b, "K", -20, 0);
    CHECKS.done(x, b, "O", -20, 0);
    int c = Checks.use(x, CALL, "A", "K", "a");
    CHECKS.due("links to the first one", x.link(0, c), 2);
    CHECKS.done(x, c, "K", -14, 0);
    CHECKS.done(x, c, "A", -14, 0);
    int d = Checks.use(x, CALL_FACE, "O", "O", "a");
    CHECKS.done(x, d, "O", 12, 0);
    CHECKS.done(x, d, "F", -14, 0);
  }

  private static void compiles() {
    LinkModels x = Checks.model("class A{static final int a=7;static final int b;int c;}",
        "class A{static final int a;static final int b=0;}", "class A{int a;}", "class A{static final int a=999999;}");
    int a = Checks.use(x, GET_STATIC, "A", "A", "a");
    CHECKS.due("copied at first", x.copied(a), LinkModels.NONE);
    CHECKS.due("compile", x.compile(0, a), 1);
    CHECKS.due("copied", x.copied(a), 7);
    CHECKS.due("compile with an error", x.compile(2, a), -14);
    CHECKS.due("nothing changed", x.copied(a), 7);
    CHECKS.due("compile the largest", x.compile(3, a), 1);
    CHECKS.due("copied", x.copied(a), 999999);
    CHECKS.due("compile unknown", x.compile(4, a), LinkModels.UNKNOWN);
    CHECKS.due("compile without one", x.compile(1, a), 0);
    CHECKS.due("what was copied is gone", x.copied(a), LinkModels.NONE);
    int b = Checks.use(x, GET_STATIC, "A", "A", "b");
    CHECKS.due("compile 0", x.compile(1, b), 1);
    CHECKS.due("copied 0", x.copied(b), 0);
    CHECKS.due("the other use has none", x.copied(a), LinkModels.NONE);
    CHECKS.due("compile none", x.compile(2, b), -17);
    int[] others = {GET, PUT, PUT_STATIC, CALL, CALL_STATIC, CALL_ABOVE, CALL_FACE, MAKE, CAST};
    for (int kind : others) {
      int use = Checks.use(x, kind, "A", "A", "a");
      CHECKS.due("compile of kind " + kind, x.compile(0, use), LinkModels.STATE);
      CHECKS.due("copied of kind " + kind, x.copied(use), LinkModels.NONE);
    }
    int far = Checks.use(x, GET_STATIC, "Z", "A", "a");
    CHECKS.due("compile of no caller", x.compile(0, far), -11);
  }

  private static void stale() {
    LinkModels x = Checks.model("class A{static final int a=7;}class B<A{}", "class B{int c;static final int a=07;}",
        "class B{static final int a=8;}", "class B{static final int a;}", "class B{hidden int a;}");
    int a = Checks.use(x, GET_STATIC, "B", "B", "a");
    CHECKS.due("nothing copied", x.stale(0, a), LinkModels.STATE);
    CHECKS.due("unknown first", x.stale(5, a), LinkModels.UNKNOWN);
    CHECKS.due("compile", x.compile(0, a), 1);
    CHECKS.due("stale in its own", x.stale(0, a), 0);
    CHECKS.due("the number alone counts", x.stale(1, a), 0);
    CHECKS.due("another number", x.stale(2, a), 1);
    CHECKS.due("no constant", x.stale(3, a), 1);
    CHECKS.due("no link", x.stale(4, a), 1);
    CHECKS.due("compile", x.compile(2, a), 1);
    CHECKS.due("stale where it was not", x.stale(0, a), 1);
    CHECKS.due("compile away", x.compile(3, a), 0);
    CHECKS.due("nothing copied", x.stale(0, a), LinkModels.STATE);
  }

  private static void changed() {
    LinkModels x = Checks.model("class A<B{static final int a=1;int b();int d;}class B{int c();int e();}",
        "class B{int c();int b();}class A<B{static final int a=2;int e();int d;hidden int f;}");
    Checks.use(x, GET_STATIC, "A", "A", "a");
    Checks.use(x, CALL, "A", "A", "b");
    Checks.use(x, CALL, "A", "A", "c");
    Checks.use(x, GET, "A", "A", "d");
    Checks.use(x, CALL, "A", "A", "e");
    Checks.use(x, CAST, "A", "B", "");
    Checks.use(x, MAKE, "B", "A", "");
    Checks.use(x, GET, "B", "A", "f");
    Checks.use(x, GET, "Z", "A", "f");
    int[] want = {1, 4, 7, LinkModels.NONE, LinkModels.NONE};
    for (int i = 0; i < want.length; i++) {
      CHECKS.due("changed " + i, x.changed(0, 1, i), want[i]);
      CHECKS.due("changed back " + i, x.changed(1, 0, i), want[i]);
    }
    CHECKS.due("changed -1", x.changed(0, 1, -1), LinkModels.NONE);
    CHECKS.due("the same", x.changed(0, 0, 0), LinkModels.NONE);
    // The place alone, in the same class.
    LinkModels y = Checks.model("class A{int a;int b;}", "class A{int b;int a;}", "class C{}class A{int a;int b;}");
    Checks.use(y, GET, "A", "A", "b");
    CHECKS.due("another place", y.changed(0, 1, 0), 0);
    CHECKS.due("a class by name, not by place", y.changed(0, 2, 0), LinkModels.NONE);
    LinkModels z = Checks.model("class A{int a;}", "class A{}", "");
    Checks.use(z, GET, "A", "A", "a");
    CHECKS.due("an error and none", z.changed(0, 1, 0), 0);
    CHECKS.due("none and an error", z.changed(1, 0, 0), 0);
    CHECKS.due("another error", z.changed(1, 2, 0), 0);
  }

  private static void share() {
    LinkModels x = Checks.model("class A{int a;}", "class B{}");
    CHECKS.due("no uses", Checks.share(x, 0), 2);
    CHECKS.due("no build", Checks.share(x, 2), 1);
    CHECKS.due("no build", Checks.share(x, -1), 1);
    Checks.use(x, GET, "A", "A", "a");
    CHECKS.due("all do", Checks.share(x, 0), 2);
    CHECKS.due("none do", Checks.share(x, 1), 1000);
    Checks.use(x, GET, "A", "A", "b");
    CHECKS.due("1 by 1", Checks.share(x, 0), 1001);
    Checks.use(x, CAST, "A", "A", "b");
    Checks.use(x, MAKE, "A", "A", "b");
    Checks.use(x, PUT, "A", "A", "a");
    CHECKS.due("4 by 1", Checks.share(x, 0), 1004);
    Checks.use(x, CALL, "A", "A", "a");
    Checks.use(x, CALL, "A", "A", "a");
    CHECKS.due("4 by 3, cut", Checks.share(x, 0), 1001);
    CHECKS.due("0 by 7", Checks.share(x, 1), 1000);
  }

  /** FACES told thrice, class behind class, are millions of ways: each class is gone through once. */
  private static void manyWays() {
    StringBuilder text = new StringBuilder();
    for (int i = 0; i < 15; i++) {
      String next = "" + (char) ('B' + i);
      text.append("face class ").append((char) ('A' + i)).append(':');
      text.append(next).append(',').append(next).append(',').append(next).append("{}");
    }
    text.append("face class P{int a();static int b;}");
    LinkModels x = Checks.model(text.toString());
    Checks.use(x, CALL_FACE, "A", "A", "a");
    Checks.use(x, GET_STATIC, "A", "A", "b");
    Checks.use(x, GET_STATIC, "A", "A", "c");
    CHECKS.due("method", x.link(0, 0), 15);
    CHECKS.due("field", x.member(0, 1), 1);
    CHECKS.due("no field", x.link(0, 2), -17);
    CHECKS.done(x, 0, "A", 15, 0);
    LinkModels y = Checks.model("face class A:B,Z{}face class B:C,C,C{static int c;}face class C:D,D,D{}"
        + "face class D:E,E,E{}face class E{}face class Z{static int a;int b();}");
    Checks.use(y, GET_STATIC, "A", "A", "a");
    Checks.use(y, CALL_FACE, "A", "A", "b");
    CHECKS.due("field behind many ways", y.link(0, 0), 5);
    CHECKS.due("method behind many ways", y.member(0, 1), 1);
    Checks.use(y, GET_STATIC, "A", "B", "c");
    CHECKS.due("the next class is as it was", y.link(0, 2), 1);
  }
}
