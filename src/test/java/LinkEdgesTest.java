/** Promises 8, 9, 10 and the terms USE and LINKED: each sentence with a boundary by itself. */
public final class LinkEdgesTest {
  private static final Checks CHECKS = new Checks();
  private static final int GET = 0, PUT = 1, GET_STATIC = 2, PUT_STATIC = 3;
  private static final int CALL = 4, CALL_STATIC = 5, CALL_ABOVE = 6, CALL_FACE = 7, MAKE = 8, CAST = 9;
  private static final int[] FAR = {-1, 40, 255, 256, Integer.MAX_VALUE, Integer.MIN_VALUE};
  private static final String WRONG = "class W2<Z{}class W3<W3{}class W4<F{}face class F{}class W5<L{}final class L{}";
  private static final String[] WRONG_NAMES = {"Z", "W2", "W3", "W4", "W5"};

  public static void main(String[] args) {
    uses40();
    useKindOutside();
    useTypesOutside();
    useOutsideAheadOfFull();
    useNeedNotBeThere();
    useTypesNotLookedAt();
    useTypesAsNames();
    usesWord();
    errorOfTheCaller();
    errorOfTheOwner();
    callerAheadOfOwner();
    makeAbstract();
    castNothingMore();
    fieldInTheOwner();
    fieldInFaces();
    fieldInFacesOfFaces();
    fieldAbove();
    noField();
    fieldHidden();
    fieldStatic();
    fieldFinal();
    fieldErrorsInOrder();
    methodKindOfOwner();
    methodKindAheadOfSearch();
    methodInTheOwner();
    methodAboveAheadOfFaces();
    methodOfAFaceItself();
    methodOfFaces();
    methodOfFacesHiddenOrStatic();
    methodOfNearestFaces();
    methodOneBody();
    methodFirstFace();
    noMethod();
    methodByTypes();
    methodHidden();
    methodStatic();
    methodErrorsInOrder();
    abstractCall();
    linkPlace();
    memberPlace();
    memberNone();
    linkUnknown();
    CHECKS.end();
  }

  /** "A USE (numbered from 0, 40 at most)" */
  private static void uses40() {
    LinkModels x = Checks.model("class A{}");
    for (int i = 0; i < 40; i++) {
      CHECKS.due("not yet", x.link(0, i), LinkModels.UNKNOWN);
      CHECKS.due("use", x.use(CAST, 'A', 'A', 0, 0, 0, 0), i);
    }
    CHECKS.due("one more", x.use(CAST, 'A', 'A', 0, 0, 0, 0), LinkModels.FULL);
    CHECKS.due("is not there", x.link(0, 40), LinkModels.UNKNOWN);
    CHECKS.due("uses", x.told(2), 40);
    for (int i = 0; i < 40; i++) {
      CHECKS.due("each is kept", x.link(0, i), 0);
    }
  }

  /** "OUTSIDE: KIND" */
  private static void useKindOutside() {
    LinkModels x = new LinkModels();
    for (int kind : new int[] {-1, 10, 11, 256, Integer.MAX_VALUE, Integer.MIN_VALUE}) {
      CHECKS.due("kind " + kind, x.use(kind, 'A', 'A', 'a', 0, 0, 0), LinkModels.OUTSIDE);
    }
    CHECKS.due("none came", x.told(2), 0);
    for (int kind = GET; kind <= CAST; kind++) {
      CHECKS.due("kind " + kind, x.use(kind, 'A', 'A', 'a', 0, 0, 0), kind);
    }
  }

  /** "OUTSIDE: .. n": of all KINDS. */
  private static void useTypesOutside() {
    LinkModels x = new LinkModels();
    for (int n : new int[] {-1, 3, 4, 256, Integer.MAX_VALUE, Integer.MIN_VALUE}) {
      for (int kind = GET; kind <= CAST; kind++) {
        CHECKS.due("n " + n, x.use(kind, 'A', 'A', 'a', n, 0, 0), LinkModels.OUTSIDE);
      }
    }
    CHECKS.due("none came", x.told(2), 0);
    for (int n = 0; n <= 2; n++) {
      CHECKS.due("n " + n, x.use(GET, 'A', 'A', 'a', n, 0, 0), n);
    }
  }

  /** "OUTSIDE .. FULL, of several the first one" */
  private static void useOutsideAheadOfFull() {
    LinkModels x = new LinkModels();
    for (int i = 0; i < 40; i++) {
      x.use(CAST, 'A', 'A', 0, 0, 0, 0);
    }
    CHECKS.due("kind", x.use(10, 'A', 'A', 0, 0, 0, 0), LinkModels.OUTSIDE);
    CHECKS.due("n", x.use(CAST, 'A', 'A', 0, 3, 0, 0), LinkModels.OUTSIDE);
    CHECKS.due("full", x.use(CAST, 'A', 'A', 0, 2, 0, 0), LinkModels.FULL);
  }

  /** "they need not be there": neither NAMES nor the WORD, nor can they be looked at without a BUILD. */
  private static void useNeedNotBeThere() {
    LinkModels x = new LinkModels();
    CHECKS.due("no names", x.use(GET, 0, 0, 0, 0, 0, 0), 0);
    CHECKS.due("high bytes", x.use(CALL, -1, Integer.MIN_VALUE, -1L, 2, -1, Integer.MIN_VALUE), 1);
    CHECKS.due("much", x.use(CAST, Integer.MAX_VALUE, 7, Long.MIN_VALUE, 1, 2, 3), 2);
    x.build();
    for (int use = 0; use < 3; use++) {
      CHECKS.due("no caller", x.link(0, use), -11);
    }
    LinkModels y = Checks.model("class A{int a;int a(int);}");
    y.use(GET, 'A', 'A', -1L, 0, 0, 0);
    y.use(CALL, 'A', 'A', 'a', 1, -1, 0);
    y.use(CALL, 'A', 'A', 'a', 1, 2, 0);
    CHECKS.due("no field of such a word", y.link(0, 0), -17);
    CHECKS.due("no method of such a type", y.link(0, 1), -19);
    CHECKS.due("nor of this one", y.link(0, 2), -19);
  }

  /** "n types (..; others are not looked at)" */
  private static void useTypesNotLookedAt() {
    LinkModels x = Checks.model("class A{int a();int a(int);int a(int,int);int a(long);}");
    int[][] told = {{0, 0, 0}, {0, 1, 1}, {0, 'A', -1}, {1, 0, 0}, {1, 0, 1}, {1, 0, -1}, {1, 1, 0}, {1, 1, 'A'}};
    int[] want = {0, 0, 0, 1, 1, 1, 3, 3};
    for (int i = 0; i < told.length; i++) {
      x.use(CALL, 'A', 'A', 'a', told[i][0], told[i][1], told[i][2]);
      CHECKS.due("use " + i, x.member(0, i), want[i]);
    }
  }

  /** "0 int, 1 long, others as NAMES" */
  private static void useTypesAsNames() {
    LinkModels x = Checks.model(
        "class A{int a(int);int a(long);int a(A);int a(ZZZZ);int a(Z,Y);int a(Y,Z);int a(A,int);}");
    int[][] told = {{1, 0, 0}, {1, 1, 0}, {1, 'A', 0}, {1, 0x5a5a5a5a, 0}, {2, 'Z', 'Y'}, {2, 'Y', 'Z'}, {2, 'A', 0}};
    for (int i = 0; i < told.length; i++) {
      x.use(CALL, 'A', 'A', 'a', told[i][0], told[i][1], told[i][2]);
      CHECKS.due("use " + i, x.member(0, i), i);
    }
    CHECKS.due("a NAME with 0s behind", x.use(CALL, 'A', 'A', 'a', 1, 'A' << 8, 0), 7);
    CHECKS.due("is another one", x.link(0, 7), -19);
    CHECKS.due("the other way round", x.use(CALL, 'A', 'A', 'a', 2, 0, 'A'), 8);
    CHECKS.due("are others", x.link(0, 8), -19);
  }

  /** "WORDS by those of a long": 0s ahead, all eight. */
  private static void usesWord() {
    LinkModels x = Checks.model("class A{int bcdefgha;int a;int ab;int zzzzzzzz();}");
    long[] words = {Checks.word("bcdefgha"), 'a', 0x6162, 0x61L << 8, 0x6261, 0x61L << 56, 0x6162L << 48};
    int[] want = {0, 1, 2, -17, -17, -17, -17};
    for (int i = 0; i < words.length; i++) {
      x.use(GET, 'A', 'A', words[i], 0, 0, 0);
      CHECKS.due("word " + i, x.member(0, i), want[i]);
    }
    CHECKS.due("a method", x.use(CALL, 'A', 'A', Checks.word("zzzzzzzz"), 0, 0, 0), 7);
    CHECKS.due("found", x.member(0, 7), 3);
    CHECKS.due("its lowest bytes", x.use(CALL, 'A', 'A', Checks.word("zzzz"), 0, 0, 0), 8);
    CHECKS.due("not found", x.link(0, 8), -19);
  }

  /** "of the CALLER .. that is not DEFINED: 1, 2, 3, 4, 5, as there" */
  private static void errorOfTheCaller() {
    for (int i = 0; i < WRONG_NAMES.length; i++) {
      for (int kind = GET; kind <= CAST; kind++) {
        CHECKS.fails(WRONG + "class A{}", 1 + i, kind, WRONG_NAMES[i], "A", "a");
      }
    }
  }

  /** "then the OWNER .. (of the OWNER 1 becomes 2)" */
  private static void errorOfTheOwner() {
    int[] want = {2, 2, 3, 4, 5};
    for (int i = 0; i < WRONG_NAMES.length; i++) {
      for (int kind = GET; kind <= CAST; kind++) {
        CHECKS.fails(WRONG + "class A{}", want[i], kind, "A", WRONG_NAMES[i], "a");
      }
    }
  }

  /** "of the CALLER, then the OWNER" */
  private static void callerAheadOfOwner() {
    for (int i = 0; i < WRONG_NAMES.length; i++) {
      for (String owner : WRONG_NAMES) {
        CHECKS.fails(WRONG, 1 + i, GET, WRONG_NAMES[i], owner, "a");
      }
    }
  }

  /** "KIND 8: 6 ABSTRACT: a face, an abstract one." */
  private static void makeAbstract() {
    String text = "class A{}abstract class B{}face class F{}final class C{}class D<B:F{abstract int a();}";
    CHECKS.links(text, 0, -1, MAKE, "A", "A", "");
    CHECKS.fails(text, 6, MAKE, "A", "B", "");
    CHECKS.fails(text, 6, MAKE, "B", "B", "");
    CHECKS.fails(text, 6, MAKE, "A", "F", "");
    CHECKS.links(text, 3, -1, MAKE, "F", "C", "");
    // The class's own mark counts, not its METHODS, nor what is ABOVE it.
    CHECKS.links(text, 4, -1, MAKE, "A", "D", "");
    CHECKS.fails("class A{}abstract class B<Z{}", 2, MAKE, "A", "B", "");
  }

  /** "9: nothing more." */
  private static void castNothingMore() {
    String text = "class A{}abstract class B{}face class F{}final class C{}";
    for (int owner = 0; owner < 4; owner++) {
      CHECKS.links(text, owner, -1, CAST, "A", "ABFC".substring(owner, owner + 1), "x", "int", "int");
    }
  }

  /** "FIELDS: looked for in the OWNER" */
  private static void fieldInTheOwner() {
    String text = "class A<B:F{int a();int a;}class B{int a;}face class F{int a;}";
    CHECKS.links(text, 0, 1, GET, "A", "A", "a");
    CHECKS.links(text, 1, 0, GET, "A", "B", "a");
    CHECKS.links(text, 2, 0, GET, "A", "F", "a");
  }

  /** "then in its FACES in order" */
  private static void fieldInFaces() {
    String text = "class A<B:F,G,H{}class B{int a;int b;int c;int d;}"
        + "face class H{int a;int b;int c;}face class G{int a;int b;}face class F{int a;}";
    CHECKS.links(text, 4, 0, GET, "A", "A", "a");
    CHECKS.links(text, 3, 1, GET, "A", "A", "b");
    CHECKS.links(text, 2, 2, GET, "A", "A", "c");
    CHECKS.links(text, 1, 3, GET, "A", "A", "d");
  }

  /** "(each with its own FACES)": ahead of the next FACE. */
  private static void fieldInFacesOfFaces() {
    String text = "class A:F,G{}face class F:K{}face class G{int a;int b;int c;}"
        + "face class K:L{int a;}face class L{int b;}";
    CHECKS.links(text, 3, 0, GET, "A", "A", "a");
    CHECKS.links(text, 4, 0, GET, "A", "A", "b");
    CHECKS.links(text, 2, 2, GET, "A", "A", "c");
    CHECKS.links(text, 4, 0, GET, "A", "F", "b");
    CHECKS.fails(text, 7, GET, "A", "F", "c");
  }

  /** "then in what is ABOVE, likewise" */
  private static void fieldAbove() {
    String text = "class A<B{}class B<C:F{int a;}class C:G{int a;int b;int c;}face class F{int a;int b;}"
        + "face class G{int c;int d;}";
    CHECKS.links(text, 1, 0, GET, "A", "A", "a");
    CHECKS.links(text, 3, 1, GET, "A", "A", "b");
    CHECKS.links(text, 2, 2, GET, "A", "A", "c");
    CHECKS.links(text, 4, 1, GET, "A", "A", "d");
  }

  /** "7 NO FIELD" */
  private static void noField() {
    for (int kind = GET; kind <= PUT_STATIC; kind++) {
      CHECKS.fails("class A{}", 7, kind, "A", "A", "a");
      CHECKS.fails("class A{int a();static int b;}", 7, kind, "A", "A", "a");
      CHECKS.fails("class A{}class B<A{int a;}", 7, kind, "B", "A", "a");
      CHECKS.fails("class A{int aa;}", 7, kind, "A", "A", "a");
      CHECKS.fails("class A{int a;}", 7, kind, "A", "A", "");
    }
    // Classes that the OWNER does not come to have it in vain, wherever they stand.
    String others = "class X{int a;}class A:F,F,F{}class B:G{}face class F{}face class G{int a;}class Y<A{int a;}";
    CHECKS.fails(others, 7, GET, "A", "A", "a");
    CHECKS.fails(others, 7, GET, "A", "F", "a");
  }

  /** "8 ACCESS: it is hidden, and the CALLER is another class than has it." */
  private static void fieldHidden() {
    String text = "class A{hidden int a;hidden static int b;}class B<A{}class C<B{}";
    CHECKS.links(text, 0, 0, GET, "A", "A", "a");
    CHECKS.links(text, 0, 0, PUT, "A", "C", "a");
    CHECKS.links(text, 0, 1, GET_STATIC, "A", "B", "b");
    // The OWNER that is asked is not the class that has it.
    CHECKS.fails(text, 8, GET, "B", "B", "a");
    CHECKS.fails(text, 8, GET, "B", "A", "a");
    CHECKS.fails(text, 8, PUT, "C", "B", "a");
    CHECKS.fails(text, 8, PUT_STATIC, "B", "A", "b");
    // It is found all the same, ahead of those behind it.
    CHECKS.fails("class A<B{hidden int a;}class B{int a;}", 8, GET, "B", "A", "a");
    CHECKS.fails("class A<B:F{}face class F{hidden int a;}class B{int a;}", 8, GET, "A", "A", "a");
  }

  /** "4: static, and KIND 0, 1; not static, and 2, 3." */
  private static void fieldStatic() {
    String text = "class A{static int a;int b;}class B<A{}";
    CHECKS.fails(text, 4, GET, "B", "B", "a");
    CHECKS.fails(text, 4, PUT, "B", "B", "a");
    CHECKS.links(text, 0, 0, GET_STATIC, "B", "B", "a");
    CHECKS.links(text, 0, 0, PUT_STATIC, "B", "B", "a");
    CHECKS.links(text, 0, 1, GET, "B", "B", "b");
    CHECKS.links(text, 0, 1, PUT, "B", "B", "b");
    CHECKS.fails(text, 4, GET_STATIC, "B", "B", "b");
    CHECKS.fails(text, 4, PUT_STATIC, "B", "B", "b");
    // The search does not go on to one that would fit; FACES have what they tell, static or not.
    CHECKS.fails("class A<B{int a;}class B{static int a;}", 4, GET_STATIC, "B", "A", "a");
    CHECKS.links("face class A{int a;}", 0, 0, PUT, "A", "A", "a");
  }

  /** "8 again: put into a final one by another class than has it." */
  private static void fieldFinal() {
    String text = "class A{final int a;static final int b;static final int c=1;}class B<A{}";
    CHECKS.links(text, 0, 0, GET, "B", "B", "a");
    CHECKS.fails(text, 8, PUT, "B", "B", "a");
    CHECKS.fails(text, 8, PUT, "B", "A", "a");
    CHECKS.links(text, 0, 0, PUT, "A", "B", "a");
    CHECKS.links(text, 0, 1, GET_STATIC, "B", "B", "b");
    CHECKS.fails(text, 8, PUT_STATIC, "B", "B", "b");
    CHECKS.links(text, 0, 1, PUT_STATIC, "A", "A", "b");
    CHECKS.links(text, 0, 2, GET_STATIC, "B", "A", "c");
    CHECKS.fails(text, 8, PUT_STATIC, "B", "A", "c");
    CHECKS.links(text, 0, 2, PUT_STATIC, "A", "A", "c");
  }

  /** "7 .. 8 .. 4 .. 8 again": the first one. */
  private static void fieldErrorsInOrder() {
    String text = "class A{hidden static int a;hidden int b;static final int c;final int d;}class B{}";
    CHECKS.fails(text, 8, GET, "B", "A", "a");
    CHECKS.fails(text, 8, PUT_STATIC, "B", "A", "b");
    CHECKS.fails(text, 4, GET, "A", "A", "a");
    CHECKS.fails(text, 4, PUT, "B", "A", "c");
    CHECKS.fails(text, 4, PUT_STATIC, "B", "A", "d");
    CHECKS.fails(text, 4, PUT, "A", "A", "c");
  }

  /** "METHODS: 4: the OWNER is a face, and KIND 4; is none, and 7." */
  private static void methodKindOfOwner() {
    String text = "class A{int a();static int b();}abstract class B{int a();}face class F{int a();static int b();}";
    CHECKS.links(text, 0, 0, CALL, "A", "A", "a");
    CHECKS.links(text, 1, 0, CALL, "A", "B", "a");
    CHECKS.fails(text, 4, CALL, "A", "F", "a");
    CHECKS.fails(text, 4, CALL_FACE, "A", "A", "a");
    CHECKS.fails(text, 4, CALL_FACE, "A", "B", "a");
    CHECKS.links(text, 2, 0, CALL_FACE, "A", "F", "a");
    // KINDS 5 and 6 ask both.
    CHECKS.links(text, 0, 1, CALL_STATIC, "A", "A", "b");
    CHECKS.links(text, 2, 1, CALL_STATIC, "A", "F", "b");
    CHECKS.links(text, 0, 0, CALL_ABOVE, "A", "A", "a");
    CHECKS.links(text, 2, 0, CALL_ABOVE, "A", "F", "a");
  }

  /** "METHODS: 4 .. Looked for": that 4 is ahead of all of the search. */
  private static void methodKindAheadOfSearch() {
    String text = "class A{hidden int a();}face class F{hidden int a();}class B{}";
    CHECKS.fails(text, 4, CALL, "B", "F", "x");
    CHECKS.fails(text, 4, CALL, "B", "F", "a");
    CHECKS.fails(text, 4, CALL_FACE, "B", "A", "x");
    CHECKS.fails(text, 4, CALL_FACE, "B", "A", "a");
  }

  /** "Looked for by WORD and types: in the OWNER, what is ABOVE, and so on" */
  private static void methodInTheOwner() {
    String text = "class A<B{int a;int a();}class B<C{int a();int b();}class C{int a();int b();abstract int c();}";
    CHECKS.links(text, 0, 1, CALL, "A", "A", "a");
    CHECKS.links(text, 1, 1, CALL, "A", "A", "b");
    CHECKS.links(text, 2, 2, CALL, "A", "A", "c");
    CHECKS.links(text, 1, 0, CALL, "A", "B", "a");
    // Whatever its marks are, the first one is found.
    CHECKS.fails("class A<B{hidden int a();}class B{int a();}", 8, CALL, "B", "A", "a");
    CHECKS.fails("class A<B{static int a();}class B{int a();}", 4, CALL, "B", "A", "a");
    CHECKS.fails("class A<B{abstract int a();}class B{int a();}", 10, CALL_ABOVE, "B", "A", "a");
  }

  /** "then FACES": behind all that is ABOVE. */
  private static void methodAboveAheadOfFaces() {
    String text = "class A<B:F{}class B<C:F{}class C{abstract int a();hidden int b();}face class F{int a();int b();}";
    CHECKS.links(text, 2, 0, CALL, "A", "A", "a");
    CHECKS.fails(text, 8, CALL, "A", "A", "b");
    CHECKS.fails(text, 10, CALL_ABOVE, "A", "A", "a");
  }

  /** "(of a face: itself alone, then the ROOT)" */
  private static void methodOfAFaceItself() {
    String text = "face class F:G{hidden int a();static int b();abstract int c();}"
        + "face class G{int a();int b();int c();}";
    CHECKS.links(text, 0, 0, CALL_FACE, "F", "F", "a");
    CHECKS.fails(text, 8, CALL_FACE, "G", "F", "a");
    CHECKS.links(text, 0, 1, CALL_STATIC, "G", "F", "b");
    CHECKS.fails(text, 4, CALL_FACE, "G", "F", "b");
    CHECKS.links(text, 0, 2, CALL_FACE, "G", "F", "c");
    CHECKS.fails(text, 10, CALL_ABOVE, "G", "F", "c");
  }

  /** "of all FACES of these, with their own" */
  private static void methodOfFaces() {
    String text = "class A<B:F{}class B:G{}face class F:H{int a();}face class G:K{int b();}face class H{int c();}"
        + "face class K{int d();}";
    CHECKS.links(text, 2, 0, CALL, "A", "A", "a");
    CHECKS.links(text, 3, 0, CALL, "A", "A", "b");
    CHECKS.links(text, 4, 0, CALL, "A", "A", "c");
    CHECKS.links(text, 5, 0, CALL, "A", "A", "d");
    CHECKS.links(text, 4, 0, CALL_FACE, "A", "F", "c");
    CHECKS.fails(text, 9, CALL_FACE, "A", "F", "d");
  }

  /** "that have one that is neither hidden nor static" */
  private static void methodOfFacesHiddenOrStatic() {
    String alone = "class A:F{}face class F{hidden int a();static int b();}";
    CHECKS.fails(alone, 9, CALL, "A", "A", "a");
    CHECKS.fails(alone, 9, CALL, "F", "A", "a");
    CHECKS.fails(alone, 9, CALL_STATIC, "A", "A", "b");
    // Nor do these stand in place of others.
    String near = "class A:F{}face class F:G{hidden int a();static int b();}face class G{int a();int b();}";
    CHECKS.links(near, 2, 0, CALL, "A", "A", "a");
    CHECKS.links(near, 2, 1, CALL, "A", "A", "b");
    String beside = "class A:F,G{}face class F{hidden int a();static int b();}face class G{abstract int a();int b();}";
    CHECKS.links(beside, 2, 0, CALL, "A", "A", "a");
    CHECKS.links(beside, 2, 1, CALL, "A", "A", "b");
    CHECKS.fails("face class E:F{}face class F{hidden int a();}", 9, CALL_FACE, "F", "E", "a");
  }

  /** "those that no other such FACE is OF in place of it (it is OF the one, and another class)" */
  private static void methodOfNearestFaces() {
    // G's is out, though it alone has a BODY, since F is OF it.
    CHECKS.links("class A:G,F{}face class F:G{abstract int a();}face class G{int a();}", 1, 0, CALL, "A", "A", "a");
    CHECKS.links("class A:G,F{}face class F:H{abstract int a();}face class H:G{}face class G{int a();}", 1, 0, CALL,
        "A", "A", "a");
    CHECKS.links("class A<B:F{}class B:G{}face class F:G{abstract int a();}face class G{int a();}", 2, 0, CALL, "A",
        "A", "a");
    CHECKS.links("class A<B:G{}class B:F{}face class F:G{int a();}face class G{int a();}", 2, 0, CALL, "A", "A", "a");
    CHECKS.links("face class F:G{abstract int a();}class A:G,F{}face class G{int a();}", 0, 0, CALL, "A", "A", "a");
    CHECKS.links("face class G{int a();}class A:G,F{}face class F:G{abstract int a();}", 2, 0, CALL, "A", "A", "a");
    // A FACE that has none of the WORD and types is no such FACE.
    CHECKS.links("class A:G,F{}face class F:G{int a(int);int b();}face class G{int a();}", 2, 0, CALL, "A", "A", "a");
    // It is OF itself, but no other class: a FACE told twice stays.
    CHECKS.links("class A<B:F,F{}class B:F{}face class F{int a();}", 2, 0, CALL, "A", "A", "a");
    // A face that is OF it, but not one of the OWNER's, takes nothing.
    CHECKS.links("class A:G{}face class F:G{int a();}face class G{int a();}", 2, 0, CALL, "A", "A", "a");
  }

  /** "if just one of these has a BODY, that" */
  private static void methodOneBody() {
    String text = "class A:F,G,H{}face class F{abstract int a();}face class G{abstract int a();}face class H{int a();}";
    CHECKS.links(text, 3, 0, CALL, "A", "A", "a");
    CHECKS.links(text, 3, 0, CALL_ABOVE, "A", "A", "a");
    String twice = "class A:F,G,H{}face class F{abstract int a();}face class G:H{}face class H{int a();}";
    CHECKS.links(twice, 3, 0, CALL, "A", "A", "a");
  }

  /** "else the first one of these, FACE by FACE (of the OWNER, in order, each ahead of its own, then of .. ABOVE)" */
  private static void methodFirstFace() {
    String none = "face class F{abstract int a();}face class G{abstract int a();}";
    CHECKS.links(none + "class A:F,G{}", 0, 0, CALL, "A", "A", "a");
    CHECKS.links(none + "class A:G,F{}", 1, 0, CALL, "A", "A", "a");
    CHECKS.links(none + "class A<B:G{}class B:F{}", 1, 0, CALL, "A", "A", "a");
    CHECKS.links(none + "class A<B{}class B:G,F{}", 1, 0, CALL, "A", "A", "a");
    CHECKS.links(none + "class A:H,F{}face class H:G{}", 1, 0, CALL, "A", "A", "a");
    CHECKS.links(none + "face class A:G,F{}", 1, 0, CALL_FACE, "A", "A", "a");
    // With a BODY each of two is no better, and one without stands ahead of them.
    String two = "face class F{int a();}face class G{int a();}face class H{abstract int a();}";
    CHECKS.links(two + "class A:F,G{}", 0, 0, CALL, "A", "A", "a");
    CHECKS.links(two + "class A:G,F{}", 1, 0, CALL, "A", "A", "a");
    CHECKS.links(two + "class A:H,G,F{}", 2, 0, CALL, "A", "A", "a");
    CHECKS.fails(two + "class A:H,G,F{}", 10, CALL_ABOVE, "A", "A", "a");
  }

  /** "none: 9 NO METHOD" */
  private static void noMethod() {
    for (int kind : new int[] {CALL, CALL_STATIC, CALL_ABOVE}) {
      CHECKS.fails("class A{}", 9, kind, "A", "A", "a");
      CHECKS.fails("class A{int a;}", 9, kind, "A", "A", "a");
      CHECKS.fails("class A{}class B<A{int a();}", 9, kind, "A", "A", "a");
    }
    for (int kind : new int[] {CALL_STATIC, CALL_ABOVE, CALL_FACE}) {
      CHECKS.fails("face class A{}", 9, kind, "A", "A", "a");
      CHECKS.fails("face class A{int a(int);}face class B:A{int a();}", 9, kind, "A", "A", "a");
    }
    // Classes that the OWNER does not come to have it in vain, wherever they stand.
    String others = "class A:F,F,F{}class B:G{}face class F{}face class G{int a();}class Y<A{int a();}";
    CHECKS.fails("class X{int a();}" + others, 9, CALL, "A", "A", "a");
    CHECKS.fails("face class X{int a();}" + others, 9, CALL, "A", "A", "a");
    CHECKS.fails("face class X{int a();}" + others, 9, CALL_FACE, "A", "F", "a");
  }

  /** "by WORD and types": how many, and each of them. */
  private static void methodByTypes() {
    String text = "class A<B{int a(int);}class B{int a();int a(long);int a(int,int);}";
    CHECKS.links(text, 1, 0, CALL, "A", "A", "a");
    CHECKS.links(text, 0, 0, CALL, "A", "A", "a", "int");
    CHECKS.links(text, 1, 1, CALL, "A", "A", "a", "long");
    CHECKS.links(text, 1, 2, CALL, "A", "A", "a", "int", "int");
    CHECKS.fails(text, 9, CALL, "A", "A", "a", "int", "long");
    CHECKS.fails(text, 9, CALL, "A", "A", "a", "A");
    CHECKS.fails(text, 9, CALL, "A", "A", "b", "int");
    // The types of a METHOD are none of the next one's.
    String fewer = "class A{int a(B,C);int a(B);int a();}";
    CHECKS.links(fewer, 0, 0, CALL, "A", "A", "a", "B", "C");
    CHECKS.links(fewer, 0, 1, CALL, "A", "A", "a", "B");
    CHECKS.links(fewer, 0, 2, CALL, "A", "A", "a");
    // A type is the NAME that is told, whatever classes there are.
    CHECKS.fails("class A<B{int a(B);}class B{}", 9, CALL, "A", "A", "a", "A");
    CHECKS.links("class A{int a(Z);}", 0, 0, CALL, "A", "A", "a", "Z");
  }

  /** "8: hidden, and the CALLER is another class than has it." */
  private static void methodHidden() {
    String text = "class A{hidden int a();hidden static int b();}class B<A{}";
    CHECKS.links(text, 0, 0, CALL, "A", "B", "a");
    CHECKS.links(text, 0, 0, CALL_ABOVE, "A", "A", "a");
    CHECKS.links(text, 0, 1, CALL_STATIC, "A", "B", "b");
    CHECKS.fails(text, 8, CALL, "B", "B", "a");
    CHECKS.fails(text, 8, CALL_ABOVE, "B", "A", "a");
    CHECKS.fails(text, 8, CALL_STATIC, "B", "B", "b");
  }

  /** "4: static, and KIND 4, 6, 7; not static, and 5." */
  private static void methodStatic() {
    String text = "class A{static int a();int b();}face class F{static int a();int b();}";
    CHECKS.fails(text, 4, CALL, "A", "A", "a");
    CHECKS.fails(text, 4, CALL_ABOVE, "A", "A", "a");
    CHECKS.fails(text, 4, CALL_FACE, "A", "F", "a");
    CHECKS.fails(text, 4, CALL_ABOVE, "A", "F", "a");
    CHECKS.links(text, 0, 0, CALL_STATIC, "A", "A", "a");
    CHECKS.fails(text, 4, CALL_STATIC, "A", "A", "b");
    CHECKS.fails(text, 4, CALL_STATIC, "A", "F", "b");
    CHECKS.fails("class A{abstract int a();}", 4, CALL_STATIC, "A", "A", "a");
  }

  /** "9 .. 8 .. 4 .. 10": the first one. */
  private static void methodErrorsInOrder() {
    String text = "class A{hidden static int a();hidden int b();}class B{}";
    CHECKS.fails(text, 8, CALL, "B", "A", "a");
    CHECKS.fails(text, 8, CALL_ABOVE, "B", "A", "a");
    CHECKS.fails(text, 8, CALL_STATIC, "B", "A", "b");
    CHECKS.fails(text, 4, CALL, "A", "A", "a");
  }

  /** "KIND 6: 10 ABSTRACT CALL, if it has no BODY." */
  private static void abstractCall() {
    String text = "class A<B:F{}class B{abstract int a();int b();}face class F{abstract int c();int d();}";
    CHECKS.fails(text, 10, CALL_ABOVE, "A", "A", "a");
    CHECKS.links(text, 1, 1, CALL_ABOVE, "A", "A", "b");
    CHECKS.fails(text, 10, CALL_ABOVE, "A", "A", "c");
    CHECKS.links(text, 2, 1, CALL_ABOVE, "A", "A", "d");
    // Of the other KINDS it LINKS.
    CHECKS.links(text, 1, 0, CALL, "A", "A", "a");
    CHECKS.links(text, 2, 0, CALL, "A", "A", "c");
    CHECKS.links(text, 2, 0, CALL_FACE, "A", "F", "c");
  }

  /** "the class that has the member (KINDS 8, 9: the OWNER), by its place in the BUILD from 0" */
  private static void linkPlace() {
    StringBuilder text = new StringBuilder();
    for (int i = 0; i < 15; i++) {
      text.append("class C").append(i).append("<C").append(i + 1).append("{}");
    }
    text.append("class C15{int a;int b();}");
    CHECKS.links(text.toString(), 15, 0, GET, "C0", "C0", "a");
    CHECKS.links(text.toString(), 15, 1, CALL, "C0", "C0", "b");
    CHECKS.links(text.toString(), 15, -1, MAKE, "C0", "C15", "");
    CHECKS.links(text.toString(), 0, -1, CAST, "C15", "C0", "");
  }

  /** "The place among its class's members at which what a USE LINKS to stands" */
  private static void memberPlace() {
    String text = "class B{int x;}class A{int a;int a();int b;int b();int c;int c();int d;int d();int e;int e();int f;"
        + "int f();}";
    for (int i = 0; i < 6; i++) {
      String word = "abcdef".substring(i, i + 1);
      CHECKS.links(text, 1, 2 * i, GET, "A", "A", word);
      CHECKS.links(text, 1, 2 * i + 1, CALL, "A", "A", word);
    }
  }

  /** "KINDS 8, 9: NONE. ERRORS." */
  private static void memberNone() {
    LinkModels x = Checks.model("class A{int a;}abstract class B{}");
    Checks.use(x, MAKE, "A", "A", "a");
    Checks.use(x, CAST, "A", "A", "a");
    Checks.use(x, MAKE, "A", "B", "");
    Checks.use(x, CAST, "A", "Z", "");
    Checks.use(x, CAST, "Z", "A", "");
    int[] want = {LinkModels.NONE, LinkModels.NONE, -16, -12, -11};
    for (int use = 0; use < want.length; use++) {
      CHECKS.due("member " + use, x.member(0, use), want[use]);
    }
  }

  /** "UNKNOWN (there is no such BUILD, USE)" of link and member */
  private static void linkUnknown() {
    LinkModels x = Checks.model("class A{int a;}");
    Checks.use(x, GET, "A", "A", "a");
    Checks.use(x, GET, "Z", "A", "a");
    for (int far : FAR) {
      CHECKS.due("link in " + far, x.link(far, 0), LinkModels.UNKNOWN);
      CHECKS.due("link of " + far, x.link(0, far), LinkModels.UNKNOWN);
      CHECKS.due("member in " + far, x.member(far, 0), LinkModels.UNKNOWN);
      CHECKS.due("member of " + far, x.member(0, far), LinkModels.UNKNOWN);
      CHECKS.due("ahead of errors", x.link(far, 1), LinkModels.UNKNOWN);
    }
    CHECKS.due("link in 1", x.link(1, 0), LinkModels.UNKNOWN);
    CHECKS.due("link of 2", x.link(0, 2), LinkModels.UNKNOWN);
    CHECKS.due("member in 1", x.member(1, 0), LinkModels.UNKNOWN);
    CHECKS.due("member of 2", x.member(0, 2), LinkModels.UNKNOWN);
  }
}
