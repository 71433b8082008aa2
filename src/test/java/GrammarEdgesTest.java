/** Promise 3 and the terms of what a text may hold, with its FAULTS: each sentence with a boundary by itself. */
public final class GrammarEdgesTest {
  private static final Checks CHECKS = new Checks();
  private static final String[] MARKS = {"static", "hidden", "final", "abstract"};

  public static void main(String[] args) {
    classes16();
    classMarkOnce();
    classNameIsNeeded();
    aboveOnce();
    faces3();
    facesBehindAbove();
    members12();
    types2();
    typesAreTold();
    marksOnce();
    abstractAlone();
    marksInAnyOrder();
    root();
    membersByTheirSigns();
    wordsOfNoMember();
    firstFault();
    placeOfAToken();
    faultCannotStand();
    faultTheEnd();
    faultVoidInBrackets();
    faultVoidField();
    faultAbstractField();
    faultFinalMethod();
    faultClassTooMany();
    faultMemberTooMany();
    faultFaceTooMany();
    faultTypeTooMany();
    faultClassThere();
    faultFieldThere();
    faultMethodThere();
    faultNoConstant();
    severalAtOneTooMany();
    severalAtOneFieldThere();
    severalAtOneConstant();
    bodies();
    CHECKS.end();
  }

  private static String classes(int count) {
    StringBuilder text = new StringBuilder();
    for (int i = 0; i < count; i++) {
      text.append("class C").append(i).append("{}");
    }
    return text.toString();
  }

  private static String members(int count, String behind) {
    StringBuilder text = new StringBuilder();
    for (int i = 0; i < count; i++) {
      text.append("int ").append((char) ('a' + i)).append(behind);
    }
    return text.toString();
  }

  /** "build: { class } (16 classes at most)" */
  private static void classes16() {
    for (int count = 0; count <= 16; count++) {
      LinkModels x = Checks.model(classes(count));
      CHECKS.due(count + " classes", x.count(0, 0), count);
    }
    CHECKS.bad(2, classes(16) + "^class D{}");
    LinkModels x = Checks.model(classes(16));
    CHECKS.due("the last one", x.name(0, 15), Checks.name("C15"));
    CHECKS.due("is defined", x.defined(0, Checks.name("C15")), 1);
  }

  /** "class: [ face | abstract | final ] "class" NAME" */
  private static void classMarkOnce() {
    CHECKS.good("face class A{}abstract class B{}final class C{}class D{}");
    String[] marks = {"face", "abstract", "final"};
    for (String one : marks) {
      for (String two : marks) {
        CHECKS.bad(1, one + " ^" + two + " class A{}");
      }
      CHECKS.bad(1, one + " ^A{}");
      CHECKS.bad(1, one + "^");
      CHECKS.bad(1, "class ^" + one + " A{}");
    }
    CHECKS.bad(1, "^static class A{}");
    CHECKS.bad(1, "^hidden class A{}");
  }

  /** "class" NAME: one NAME, and no WORD. */
  private static void classNameIsNeeded() {
    CHECKS.bad(1, "class ^{}");
    CHECKS.bad(1, "class ^<A{}");
    CHECKS.bad(1, "class A ^B{}");
    CHECKS.bad(1, "class ^a{}");
    CHECKS.bad(1, "class ^7{}");
    CHECKS.bad(1, "class A^;");
  }

  /** "[ < NAME ]" */
  private static void aboveOnce() {
    CHECKS.good("class A<B{}");
    CHECKS.bad(1, "class A<^{}");
    CHECKS.bad(1, "class A<^int{}");
    CHECKS.bad(1, "class A<B^<C{}");
    CHECKS.bad(1, "class A<B^,C{}");
    CHECKS.bad(1, "class A<B ^C{}");
  }

  /** "[ : NAME { , NAME } ] .. (3 NAMES behind : at most)" */
  private static void faces3() {
    CHECKS.good("class A:B{}");
    CHECKS.good("class A:B,C{}");
    CHECKS.good("class A:B,C,D{}");
    CHECKS.good("class A:B,C,D{}class B:C,D,E{}");
    CHECKS.bad(1, "class A:^{}");
    CHECKS.bad(1, "class A:B,^{}");
    CHECKS.bad(1, "class A:B,C,D,^{}");
    CHECKS.bad(2, "class A:B,C,D,^E{}");
    CHECKS.bad(1, "class A:B ^C{}");
    CHECKS.bad(1, "class A:^int{}");
    LinkModels x = Checks.model("class A:B,C,D{}face class B{}face class C{}face class D{}");
    for (char face = 'B'; face <= 'D'; face++) {
      CHECKS.due("A is of " + face, x.is(0, 'A', face), 1);
    }
  }

  /** "[ < NAME ] [ : NAME .. ]": in this order. */
  private static void facesBehindAbove() {
    CHECKS.good("class A<B:C{}");
    CHECKS.bad(1, "class A:C^<B{}");
    CHECKS.bad(1, "class A:C^:D{}");
    CHECKS.bad(1, "class A<B:C^<D{}");
  }

  /** "12 members a class .. at most" */
  private static void members12() {
    CHECKS.good("class A{}");
    CHECKS.good("class A{" + members(12, ";") + "}");
    CHECKS.good("class A{" + members(12, "();") + "}");
    CHECKS.good("class A{" + members(6, ";") + members(6, "();") + "}");
    CHECKS.good("class A{" + members(12, ";") + "}class B{" + members(12, ";") + "}");
    CHECKS.bad(2, "class A{" + members(12, ";") + "^int z;}");
    CHECKS.bad(2, "class A{" + members(12, "();") + "^int z();}");
    CHECKS.bad(2, "class A{" + members(6, ";") + members(6, "();") + "^int z();}");
    LinkModels x = Checks.model("class A{" + members(12, ";") + "}class B{" + members(12, "();") + "}");
    Checks.use(x, 0, "A", "A", "l");
    Checks.use(x, 4, "A", "B", "l");
    Checks.use(x, 4, "A", "B", "a");
    CHECKS.due("the twelfth", x.member(0, 0), 11);
    CHECKS.due("the twelfth of the next", x.member(0, 1), 11);
    CHECKS.due("the first of the next", x.member(0, 2), 0);
    CHECKS.due("its class", x.link(0, 2), 1);
  }

  /** "2 types in brackets at most" */
  private static void types2() {
    CHECKS.good("class A{int a();int a(int);int a(int,int);}");
    CHECKS.bad(2, "class A{int a(int,int,^int);}");
    CHECKS.bad(2, "class A{int a(A,B,^C);}");
    CHECKS.bad(1, "class A{int a(int^;}");
    CHECKS.bad(1, "class A{int a(int,^);}");
    CHECKS.bad(1, "class A{int a(int,int,^);}");
    CHECKS.bad(1, "class A{int a(int,int^;}");
    CHECKS.bad(1, "class A{int a(^,int);}");
    CHECKS.bad(1, "class A{int a(int ^int);}");
  }

  /** "type: int | long | void | NAME" */
  private static void typesAreTold() {
    CHECKS.good("class A{int a;long b;A c;Z9 d;int e();long f();void g();A h();Z9 k(int,long);void l(A,Z9);}");
    CHECKS.bad(1, "class A{^a;}");
    CHECKS.bad(1, "class A{^a b;}");
    CHECKS.bad(1, "class A{^face b;}");
    CHECKS.bad(1, "class A{^class b;}");
    CHECKS.bad(1, "class A{^7 b;}");
    CHECKS.bad(1, "class A{static ^b;}");
    CHECKS.bad(1, "class A{int a(^b);}");
    CHECKS.bad(1, "class A{int a(^face);}");
    CHECKS.bad(1, "class A{int a(^static int);}");
    CHECKS.bad(1, "class A{int a(int ^b);}");
  }

  /** "mark: static | hidden | final | abstract (each once at most ..)" */
  private static void marksOnce() {
    for (String mark : MARKS) {
      CHECKS.bad(1, "class A{" + mark + " ^" + mark + " int a();}");
    }
    CHECKS.bad(1, "class A{static hidden ^static int a;}");
    CHECKS.bad(1, "class A{hidden final ^hidden int a;}");
    CHECKS.bad(1, "class A{static hidden final ^static int a;}");
    CHECKS.bad(1, "class A{static hidden final ^final int a;}");
    CHECKS.bad(1, "class A{int ^static a;}");
    CHECKS.good("class A{static int a;static int b;}");
  }

  /** "abstract with no other one" */
  private static void abstractAlone() {
    CHECKS.good("class A{abstract int a();abstract void b(int);}");
    for (String mark : MARKS) {
      CHECKS.bad(1, "class A{abstract ^" + mark + " int a();}");
      CHECKS.bad(1, "class A{" + mark + " ^abstract int a();}");
    }
    CHECKS.bad(1, "class A{static hidden ^abstract int a();}");
    CHECKS.bad(1, "class A{static hidden final ^abstract int a();}");
  }

  /** "{ mark }": none up to three, in any order. */
  private static void marksInAnyOrder() {
    CHECKS.good("class A{int a;}");
    for (int i = 0; i < 3; i++) {
      CHECKS.good("class A{" + MARKS[i] + " int a;}");
      for (int k = 0; k < 3; k++) {
        if (i != k) {
          CHECKS.good("class A{" + MARKS[i] + " " + MARKS[k] + " int a;}");
          CHECKS.good("class A{" + MARKS[i] + " " + MARKS[k] + " " + MARKS[3 - i - k] + " int a=1;}");
        }
      }
    }
  }

  /** "(none told: the ROOT, a class of no NAME, without members, that is there always)" */
  private static void root() {
    LinkModels x = Checks.model("", "class A{}face class F{}");
    CHECKS.due("the ROOT is not counted", x.count(0, 0), 0);
    CHECKS.due("nor is it class 0", x.name(1, 0), 'A');
    CHECKS.due("without a class told above", x.defined(1, 'A'), 1);
    CHECKS.due("a face, too", x.defined(1, 'F'), 1);
    CHECKS.due("it has no name", x.defined(1, 0), -11);
    Checks.use(x, 4, "A", "A", "a");
    Checks.use(x, 7, "A", "F", "a");
    Checks.use(x, 0, "A", "A", "a");
    CHECKS.due("it has no method", x.link(1, 0), -19);
    CHECKS.due("it has no method for faces", x.link(1, 1), -19);
    CHECKS.due("it has no field", x.link(1, 2), -17);
  }

  /** "A member with brackets is a METHOD, with = a CONSTANT (a FIELD), else a FIELD." */
  private static void membersByTheirSigns() {
    LinkModels x = Checks.model("class A{int a();}", "class A{static final int a=0;}", "class A{static final int a;}");
    int[][] want = {{0, 1, 0}, {1, 0, 1}, {1, 0, 0}};
    for (int b = 0; b < 3; b++) {
      for (int what = 1; what <= 3; what++) {
        CHECKS.due("build " + b + " count " + what, x.count(b, what), want[b][what - 1]);
      }
    }
  }

  /** "The WORDS that stand here in quotes or as marks or types are no members' WORDS." */
  private static void wordsOfNoMember() {
    for (String word : "class static hidden final abstract int long void".split(" ")) {
      CHECKS.bad(1, "class A{int ^" + word + ";}");
      CHECKS.bad(1, "class A{int ^" + word + "();}");
      CHECKS.bad(1, "class A{static final int ^" + word + "=1;}");
      if (word.length() < 8) {
        CHECKS.good("class A{int " + word + "s;int x" + word + "();}");
      }
      CHECKS.good("class A{int " + word.substring(1) + ";}");
    }
    // It stands neither in quotes nor as a mark or a type of a member.
    CHECKS.good("class A{int face;int face();}");
  }

  /** "FAULTS, the first one" */
  private static void firstFault() {
    CHECKS.bad(4, "class A{int a^=1;void b;}class A{}.");
    CHECKS.bad(3, "class A{}class ^A{void b;int a=1;}.");
    CHECKS.bad(2, "class A:B,C,D,^E{void b;}class A{}");
    CHECKS.bad(1, "class A{void b^;int a=1;}class A{}");
    CHECKS.bad(1, "class A{int ^abcdefghi=1;}");
    CHECKS.bad(3, "class A{int a;int a^;static ");
  }

  /** "at the first byte of its TOKEN" */
  private static void placeOfAToken() {
    CHECKS.bad(1, "  \n ^classes");
    CHECKS.bad(1, "class  \n ^ABCDE{}");
    CHECKS.bad(3, "class ABCD{}class \n ^ABCD {}");
    CHECKS.bad(2, "class A:B,C,D,  ^ABCD{}");
    CHECKS.bad(4, "class A{int a \n ^= 1;}");
    CHECKS.bad(3, "class A{int a( );int a(  ^)  ;}");
  }

  /** "1 a TOKEN that cannot stand" */
  private static void faultCannotStand() {
    CHECKS.bad(1, "^A");
    CHECKS.bad(1, "^;");
    CHECKS.bad(1, "^{}");
    CHECKS.bad(1, "class A{}^{}");
    CHECKS.bad(1, "class A{int a^,}");
    CHECKS.bad(1, "class A{int a^}");
    CHECKS.bad(1, "class A{int a ^b;}");
    CHECKS.bad(1, "class A{static final int a=^;}");
    CHECKS.bad(1, "class A{static final int a=^b;}");
    CHECKS.bad(1, "class A{static final int a=1^}");
    CHECKS.bad(1, "class A{static final int a=1^,}");
    CHECKS.bad(1, "class A{int a()^}");
    CHECKS.bad(1, "class A{int a()^=1;}");
    CHECKS.bad(1, "class A{int a^);}");
    CHECKS.bad(1, "class A{^class B{}}");
  }

  /** "or the end where it cannot be (at the end)" */
  private static void faultTheEnd() {
    String[] parts = {"final ", "class ", "A", "<", "B", ":", "C", ",", "D", "{", "static ", "int ", "a", "(", "int",
        ",", "long", ")", ";", "static ", "final ", "int ", "b", "=", "1", ";"};
    StringBuilder text = new StringBuilder();
    for (String part : parts) {
      text.append(part);
      CHECKS.bad(1, text + "^");
      CHECKS.bad(1, text + " \n  ^");
    }
    CHECKS.good(text + "}");
    CHECKS.bad(1, "class" + " ".repeat(795) + "^");
  }

  /** "void in brackets" */
  private static void faultVoidInBrackets() {
    CHECKS.bad(1, "class A{void a(^void);}");
    CHECKS.bad(1, "class A{void a(int,^void);}");
    CHECKS.bad(1, "class A{void a(^void,int);}");
    CHECKS.good("class A{void a();}");
  }

  /** "the ; or = of a FIELD that is void" */
  private static void faultVoidField() {
    CHECKS.bad(1, "class A{void a^;}");
    CHECKS.bad(1, "class A{void a^=1;}");
    CHECKS.bad(1, "class A{static hidden void a^;}");
    CHECKS.bad(1, "class A{static final void a^=1;}");
  }

  /** "the ; or = of a FIELD that is .. abstract" */
  private static void faultAbstractField() {
    CHECKS.bad(1, "class A{abstract int a^;}");
    CHECKS.bad(1, "class A{abstract int a^=1;}");
    CHECKS.bad(1, "class A{abstract void a^;}");
    CHECKS.bad(1, "abstract class A{abstract A a^;}");
  }

  /** "the "(" of a METHOD that is final" */
  private static void faultFinalMethod() {
    CHECKS.bad(1, "class A{final int a^();}");
    CHECKS.bad(1, "class A{final void a^(int);}");
    CHECKS.bad(1, "class A{static final int a^();}");
    CHECKS.bad(1, "class A{final hidden int a ^(void);}");
    CHECKS.good("final class A{int a();static int b();hidden int c();abstract int d();}");
  }

  /** "2 one too many (a class ..: at its first TOKEN ..)" */
  private static void faultClassTooMany() {
    CHECKS.bad(2, classes(16) + " ^class");
    CHECKS.bad(2, classes(16) + " ^class C0{}");
    CHECKS.bad(2, classes(16) + "\n^face class D{}");
    CHECKS.bad(2, classes(16) + "^abstract class D{}");
    CHECKS.bad(2, classes(16) + "^final final");
  }

  /** "2 one too many (.. a member: at its first TOKEN ..)" */
  private static void faultMemberTooMany() {
    String full = "class A{" + members(12, ";");
    for (String mark : MARKS) {
      CHECKS.bad(2, full + "^" + mark + " int z();}");
    }
    for (String type : "int long void A ABCD".split(" ")) {
      CHECKS.bad(2, full + " ^" + type + " a;}");
    }
    CHECKS.bad(2, full + "^static static");
    CHECKS.bad(2, full + "^void");
  }

  /** "2 one too many (.. a FACE ..: at it)" */
  private static void faultFaceTooMany() {
    CHECKS.bad(2, "class A:B,C,D, ^E{}");
    CHECKS.bad(2, "class A<F:B,C,D,^E,F,G{}");
    CHECKS.bad(2, "class A:A,A,A,^A{}");
  }

  /** "2 one too many (.. a type: at it)" */
  private static void faultTypeTooMany() {
    CHECKS.bad(2, "class A{int a(int,int, ^int);}");
    CHECKS.bad(2, "class A{int a(int,long,^long,int);}");
    CHECKS.bad(2, "class A{int a();int a(int,int,^A");
  }

  /** "3 what is there already: the NAME of a class (at it)" */
  private static void faultClassThere() {
    CHECKS.bad(3, "class A{}class ^A{}");
    CHECKS.bad(3, "class A{}class B{}final class ^A<B{}");
    CHECKS.bad(3, classes(15) + "class ^C0{}");
    CHECKS.good("class A{}class AA{}class A0{}class AAA{}");
    // NAMES of classes that are asked for, but not told, are not there.
    CHECKS.good("class A<B:C{D d;}class B{}class C{}class D{}");
  }

  /** "3 .. the WORD of a FIELD among FIELDS of its class (at its ; or =)" */
  private static void faultFieldThere() {
    CHECKS.bad(3, "class A{int a;int a ^;}");
    CHECKS.bad(3, "class A{int a;hidden static A a^;}");
    CHECKS.bad(3, "class A{int a;static final int a^=1;}");
    CHECKS.bad(3, "class A{static final int a=1;static final int a^=1;}");
    CHECKS.bad(3, "class A{" + members(11, ";") + "int a^;}");
    CHECKS.good("class A{int a();int a;}");
    CHECKS.good("class A{int a;}class B<A{int a;}");
    CHECKS.good("class A{int a;int aa;}");
  }

  /** "3 .. that of a METHOD with its types (at its ")")" */
  private static void faultMethodThere() {
    CHECKS.bad(3, "class A{int a();void a(^);}");
    CHECKS.bad(3, "class A{int a();abstract int a( ^);}");
    CHECKS.bad(3, "class A{int a(int);int a(int^);}");
    CHECKS.bad(3, "class A{int a(int,A);static A a(int,A^);}");
    CHECKS.bad(3, "class A{int a(A);int a(A^)");
    CHECKS.bad(3, "class A{int a();int b(A,B);int a(^);}");
    CHECKS.bad(3, "class A{int a(A);int b(A,B);int a(A^);}");
    CHECKS.good("class A{int a();int a(int);int a(int,int);int a(long,int);int a(int,long);int a(A);int a(A,A);}");
    CHECKS.good("class A{int a;int a();}");
    CHECKS.good("class A{int a();int b();}class B<A{int a();}");
  }

  /** "4 a CONSTANT that is no static final int (at its =)" */
  private static void faultNoConstant() {
    CHECKS.good("class A{static final int a=1;}");
    CHECKS.good("class A{final static hidden int a=1;}");
    for (String marks : new String[] {"", "static ", "final ", "hidden ", "static hidden ", "hidden final "}) {
      CHECKS.bad(4, "class A{" + marks + "int a^=1;}");
    }
    CHECKS.bad(4, "class A{static final long a^=1;}");
    CHECKS.bad(4, "class A{static final A a ^=1;}");
    CHECKS.bad(4, "class A{static final hidden long a^=");
  }

  /** "(of several at one the first here)": 1 ahead of 2. */
  private static void severalAtOneTooMany() {
    CHECKS.bad(1, classes(16) + "^ABCD");
    CHECKS.bad(1, classes(16) + "^}");
    CHECKS.bad(1, classes(16) + "^static class A{}");
    CHECKS.bad(1, "class A{" + members(12, ";") + "^ABCDE a;}");
    CHECKS.bad(1, "class A{" + members(12, ";") + "^face a;}");
    CHECKS.bad(1, "class A{" + members(12, ";") + "^");
    CHECKS.bad(1, "class A:B,C,D,^ABCDE{}");
    CHECKS.bad(1, "class A:B,C,D,^int{}");
    CHECKS.bad(1, "class A{int a(int,int,^void);}");
    CHECKS.bad(1, "class A{int a(int,int,^ABCDE);}");
  }

  /** "(of several at one the first here)": 1 ahead of 3. */
  private static void severalAtOneFieldThere() {
    CHECKS.bad(1, "class A{int a;void a^;}");
    CHECKS.bad(1, "class A{int a;abstract int a^;}");
    CHECKS.bad(1, "class A{int a;abstract int a^=1;}");
  }

  /** "(of several at one the first here)": 1 and 3 ahead of 4. */
  private static void severalAtOneConstant() {
    CHECKS.bad(1, "class A{void a^=1;}");
    CHECKS.bad(1, "class A{abstract int a^=1;}");
    CHECKS.bad(3, "class A{int a;int a^=1;}");
    CHECKS.bad(3, "class A{int a;static final long a^=1;}");
  }

  /** "A METHOD has a BODY, if it is not abstract (in a face, too)." */
  private static void bodies() {
    CHECKS.links("class A{int a();}", 0, 0, 6, "A", "A", "a");
    CHECKS.fails("class A{abstract int a();}", 10, 6, "A", "A", "a");
    CHECKS.fails("abstract class A{abstract int a();}", 10, 6, "A", "A", "a");
    CHECKS.links("abstract class A{int a();}", 0, 0, 6, "A", "A", "a");
    CHECKS.links("face class A{int a();}", 0, 0, 6, "A", "A", "a");
    CHECKS.fails("face class A{abstract int a();}", 10, 6, "A", "A", "a");
  }
}
