/** Promises 1, 2, 3, 17: a new object, the tape, what is read from it with its FAULTS, what is told. */
public final class TapeTest {
  private static final Checks CHECKS = new Checks();

  public static void main(String[] args) {
    newObject();
    feeds();
    feedsFull();
    buildsFull();
    goodTexts();
    tokens();
    cannotStand();
    theEnd();
    tooMany();
    alreadyThere();
    noConstant();
    firstFault();
    faultsLeaveNothing();
    CHECKS.end();
  }

  private static void newObject() {
    LinkModels x = new LinkModels();
    CHECKS.due("new told 0", x.told(0), 0);
    CHECKS.due("new told 1", x.told(1), 0);
    CHECKS.due("new told 2", x.told(2), 0);
    CHECKS.due("told -1", x.told(-1), LinkModels.OUTSIDE);
    CHECKS.due("told 3", x.told(3), LinkModels.OUTSIDE);
    CHECKS.due("new defined", x.defined(0, 65), LinkModels.UNKNOWN);
    CHECKS.due("new count", x.count(0, 9), LinkModels.UNKNOWN);
    CHECKS.due("new name", x.name(0, 0), LinkModels.UNKNOWN);
    CHECKS.due("new is", x.is(0, 65, 65), LinkModels.UNKNOWN);
    CHECKS.due("new link", x.link(0, 0), LinkModels.UNKNOWN);
    CHECKS.due("new copied", x.copied(0), LinkModels.UNKNOWN);
    CHECKS.due("new changed", x.changed(0, 0, 0), LinkModels.UNKNOWN);
    CHECKS.due("new share", Checks.share(x, 0), 1);
  }

  private static void feeds() {
    LinkModels x = new LinkModels();
    CHECKS.due("feed 0 bytes", x.feed(65, 0), LinkModels.OUTSIDE);
    CHECKS.due("feed 9 bytes", x.feed(65, 9), LinkModels.OUTSIDE);
    CHECKS.due("feed -1 bytes", x.feed(65, -1), LinkModels.OUTSIDE);
    CHECKS.due("told after refused feeds", x.told(0), 0);
    // Only the lowest bytes are taken, the highest of them first.
    CHECKS.due("feed cl", x.feed(0x7777636cL, 2), 2);
    CHECKS.due("feed ass A {}", x.feed(Checks.word("ass A {}"), 8), 10);
    CHECKS.due("told 0", x.told(0), 10);
    CHECKS.due("build", x.build(), 0);
    CHECKS.due("told 0 after build", x.told(0), 0);
    CHECKS.due("told 1 after build", x.told(1), 1);
    CHECKS.due("name", x.name(0, 0), 65);
    CHECKS.due("feed of high bytes", x.feed(-1L, 8), 8);
    CHECKS.due("build of high bytes", x.build(), Checks.fault(1, 0));
  }

  private static void feedsFull() {
    LinkModels x = new LinkModels();
    for (int i = 1; i <= 99; i++) {
      CHECKS.due("feed of blanks", x.feed(0x2020202020202020L, 8), 8 * i);
    }
    CHECKS.due("feed to 795", x.feed(0x2020200aL, 3), 795);
    CHECKS.due("feed beyond", x.feed(0, 6), LinkModels.FULL);
    CHECKS.due("feed beyond and outside", x.feed(0, 9), LinkModels.OUTSIDE);
    CHECKS.due("told 795", x.told(0), 795);
    CHECKS.due("feed to 800", x.feed(0x2020202020L, 5), 800);
    CHECKS.due("feed behind 800", x.feed(32, 1), LinkModels.FULL);
    CHECKS.due("800 blanks are a build", x.build(), 0);
    CHECKS.due("without classes", x.count(0, 0), 0);
    CHECKS.due("feed anew", x.feed(32, 1), 1);
    CHECKS.due("the end behind 800", long800(), Checks.fault(1, 800));
  }

  private static int long800() {
    return Checks.build(new LinkModels(), "class A {" + " ".repeat(791));
  }

  private static void buildsFull() {
    LinkModels x = new LinkModels();
    for (int i = 0; i < 5; i++) {
      CHECKS.due("build", Checks.build(x, "class A" + i + "{}"), i);
    }
    CHECKS.due("sixth build", Checks.build(x, "class B {}"), LinkModels.FULL);
    CHECKS.due("its tape is used up", x.told(0), 0);
    CHECKS.due("sixth with a fault", Checks.build(x, "class"), LinkModels.FULL);
    CHECKS.due("told 1", x.told(1), 5);
    CHECKS.due("the fifth is still there", x.name(4, 0), Checks.name("A4"));
    CHECKS.due("no sixth", x.name(5, 0), LinkModels.UNKNOWN);
  }

  private static void goodTexts() {
    CHECKS.good("");
    CHECKS.good(" \n ");
    CHECKS.good("class A{}");
    CHECKS.good("face class A{}abstract class B{}final class C{}class D<B:A,A,A{}");
    CHECKS.good("class A<A:A{}");
    CHECKS.good("class A<ZZZZ:Z9,Z0Z{}");
    CHECKS.good("class A{hidden static final int a=000007;static hidden void b(int,long);abstract A c(A,B);}");
    CHECKS.good("class A{final A a;final hidden static long b;static void c();void d(int);hidden int e();}");
    CHECKS.good("class A{final static int a=1;final hidden static int b=999999;}");
    CHECKS.good("class A{int a;int a();int a(int);int a(long);int a(A);int a(B);int a(int,int);int a(int,long);}");
    // "face" is no mark of members and stands not in quotes.
    CHECKS.good("class A{int face;int face();}");
    CHECKS.good("class A{int classes;int in;int longer;int abcdefgh;}");
    CHECKS.good("class A{Aa;B9b;}");
    CHECKS.good("class AZ09{int azza;static final int z=109;}");
  }

  private static void tokens() {
    CHECKS.bad(1, "class ^ABCDE{}");
    CHECKS.bad(1, "class A{int ^abcdefghi;}");
    CHECKS.bad(1, "class A{static final int a=^1234567;}");
    CHECKS.bad(1, "^classa{}");
    CHECKS.good("classA{}");
    CHECKS.bad(1, "class ^a{}");
    CHECKS.bad(1, "class ^1{}");
    CHECKS.bad(1, "class A^\t{}");
    CHECKS.bad(1, "class A^\r{}");
    CHECKS.bad(1, "class A{}^.");
    CHECKS.bad(1, "class A{}^>");
    CHECKS.bad(1, "class A{}^\u00ff");
    CHECKS.bad(1, "class A{}^\u0000");
    CHECKS.bad(1, "class A^b{}");
    CHECKS.bad(1, "class A9^a{}");
    CHECKS.bad(1, "class A{static final int a=12^a;}");
    CHECKS.bad(1, "class A{static final int a=12^A;}");
    CHECKS.bad(1, "class A{static final int a=12 ^3;}");
  }

  private static void cannotStand() {
    CHECKS.bad(1, "^A");
    CHECKS.bad(1, "^{");
    CHECKS.bad(1, "^static class A{}");
    CHECKS.bad(1, "face ^final class A{}");
    CHECKS.bad(1, "face ^face class A{}");
    CHECKS.bad(1, "final ^A{}");
    CHECKS.bad(1, "class ^class{}");
    CHECKS.bad(1, "class A ^A{}");
    CHECKS.bad(1, "class A<^{}");
    CHECKS.bad(1, "class A<B^<C{}");
    CHECKS.bad(1, "class A<B^,C{}");
    CHECKS.bad(1, "class A:^{}");
    CHECKS.bad(1, "class A:B,^{}");
    CHECKS.bad(1, "class A:B^;{}");
    CHECKS.bad(1, "class A:B^<C{}");
    CHECKS.bad(1, "class A:^int{}");
    CHECKS.bad(1, "class A{^;}");
    CHECKS.bad(1, "class A{^a;}");
    CHECKS.bad(1, "class A{^class B{}}");
    CHECKS.bad(1, "class A{static ^static int a;}");
    CHECKS.bad(1, "class A{final hidden ^final int a;}");
    CHECKS.bad(1, "class A{static hidden final ^static int a;}");
    CHECKS.bad(1, "class A{static ^abstract int a();}");
    CHECKS.bad(1, "class A{abstract ^static int a();}");
    CHECKS.bad(1, "class A{abstract ^abstract int a();}");
    CHECKS.bad(1, "class A{static hidden final ^abstract int a;}");
    CHECKS.bad(1, "class A{static ^a;}");
    CHECKS.bad(1, "class A{int ^static a;}");
    for (String word : "class static hidden final abstract int long void A 1 ;".split(" ")) {
      CHECKS.bad(1, "class A{int ^" + word + ";}");
    }
    CHECKS.bad(1, "class A{int a^,}");
    CHECKS.bad(1, "class A{int a^}");
    CHECKS.bad(1, "class A{void a^;}");
    CHECKS.bad(1, "class A{void a^=1;}");
    CHECKS.bad(1, "class A{static final void a^=1;}");
    CHECKS.bad(1, "class A{abstract int a^;}");
    CHECKS.bad(1, "class A{abstract int a^=1;}");
    CHECKS.bad(1, "class A{final int a^();}");
    CHECKS.bad(1, "class A{static final int a^(void);}");
    CHECKS.bad(1, "class A{static final int a=^;}");
    CHECKS.bad(1, "class A{static final int a=^a;}");
    CHECKS.bad(1, "class A{static final int a=1^}");
    CHECKS.bad(1, "class A{int a(^void);}");
    CHECKS.bad(1, "class A{int a(int,^void);}");
    CHECKS.bad(1, "class A{int a(int,int,^void);}");
    CHECKS.bad(1, "class A{int a(^,);}");
    CHECKS.bad(1, "class A{int a(int,^);}");
    CHECKS.bad(1, "class A{int a(int,int,^);}");
    CHECKS.bad(1, "class A{int a(int^;}");
    CHECKS.bad(1, "class A{int a(int ^long);}");
    CHECKS.bad(1, "class A{int a(^static);}");
    CHECKS.bad(1, "class A{int a()^}");
    CHECKS.bad(1, "class A{int a()^=1;}");
    CHECKS.bad(1, "class A{}^}");
  }

  private static void theEnd() {
    String whole = "final class A<B:C,D{static int a(int,long);static final int b=1;}";
    for (int length = 1; length < whole.length(); length++) {
      String text = whole.substring(0, length);
      char last = text.charAt(length - 1);
      // A cut inside a word makes another word, which is refused by itself or goes for the whole.
      boolean inWord = Character.isLowerCase(last) && Character.isLowerCase(whole.charAt(length));
      if (!inWord) {
        CHECKS.bad(1, text + "^");
        CHECKS.bad(1, text + " \n^");
      }
    }
  }

  private static String classes(int count) {
    StringBuilder text = new StringBuilder();
    for (int i = 0; i < count; i++) {
      text.append("class C").append(i).append("{}");
    }
    return text.toString();
  }

  private static String fields(int count) {
    StringBuilder text = new StringBuilder();
    for (int i = 0; i < count; i++) {
      text.append("int ").append((char) ('a' + i)).append(';');
    }
    return text.toString();
  }

  private static void tooMany() {
    CHECKS.good(classes(16));
    CHECKS.good(classes(16) + "\n");
    CHECKS.bad(2, classes(16) + "^class A{}");
    CHECKS.bad(2, classes(16) + " ^face class C0{}");
    CHECKS.bad(2, classes(16) + "^final");
    CHECKS.bad(1, classes(16) + "^classes");
    CHECKS.bad(1, classes(16) + "^}");
    CHECKS.good("class A{" + fields(12) + "}");
    CHECKS.bad(2, "class A{" + fields(12) + "^int z;}");
    CHECKS.bad(2, "class A{" + fields(12) + "^static int a;}");
    CHECKS.bad(2, "class A{" + fields(12) + "^A a;}");
    CHECKS.bad(2, "class A{" + fields(12) + "^void");
    CHECKS.bad(1, "class A{" + fields(12) + "^a;}");
    CHECKS.bad(1, "class A{" + fields(12) + "^;}");
    CHECKS.bad(1, "class A{" + fields(12) + "^ABCDE a;}");
    CHECKS.good("class A{" + fields(12) + "}class B{" + fields(12) + "}");
    CHECKS.bad(2, "class A:B,C,D,^E{}");
    CHECKS.bad(2, "class A:B,B,B,^B{}");
    CHECKS.bad(1, "class A:B,C,D,^ABCDE{}");
    CHECKS.bad(2, "class A{int a(int,int,^int);}");
    CHECKS.bad(2, "class A{int a(int,int,^A);}");
    CHECKS.bad(1, "class A{int a(int,int,^ABCDE);}");
  }

  private static void alreadyThere() {
    CHECKS.bad(3, "class A{}class ^A{}");
    CHECKS.bad(3, "class A{}class B{}face class ^A{}");
    CHECKS.bad(3, "class A{int a;long a^;}");
    CHECKS.bad(3, "class A{int a;static final int a^=1;}");
    CHECKS.bad(3, "class A{static final int a=1;A a^;}");
    CHECKS.bad(3, "class A{int a();static long a(^);}");
    CHECKS.bad(3, "class A{int a(int,A);void a(int,A^);}");
    CHECKS.good("class A{int a;}class B{int a;int a();}class C{int a();}");
  }

  private static void noConstant() {
    CHECKS.bad(4, "class A{int a^=1;}");
    CHECKS.bad(4, "class A{static int a^=1;}");
    CHECKS.bad(4, "class A{final int a^=1;}");
    CHECKS.bad(4, "class A{hidden final int a^=1;}");
    CHECKS.bad(4, "class A{static final long a^=1;}");
    CHECKS.bad(4, "class A{static final A a^=1;}");
    CHECKS.bad(4, "class A{static final long a^=b;}");
    CHECKS.bad(3, "class A{int a;int a^=1;}");
    CHECKS.bad(1, "class A{int a;void a^=1;}");
  }

  private static void firstFault() {
    CHECKS.bad(3, "class A{int a;int a^;void b;}class A{}");
    CHECKS.bad(1, "class A{void b^;int a;int a;}class A{}");
    CHECKS.bad(4, "class A{int b^=1;int a;int a;}.");
  }

  private static void faultsLeaveNothing() {
    LinkModels x = new LinkModels();
    CHECKS.due("fault", Checks.build(x, "class A:B,B{int a;int b;}class B<A{} class"), Checks.fault(1, 42));
    CHECKS.due("the tape is used up", x.told(0), 0);
    CHECKS.due("no build", x.told(1), 0);
    CHECKS.due("nothing known", x.count(0, 0), LinkModels.UNKNOWN);
    CHECKS.due("good", Checks.build(x, "class C{}class A{int c();}"), 0);
    CHECKS.due("classes", x.count(0, 0), 2);
    CHECKS.due("fields", x.count(0, 1), 0);
    CHECKS.due("methods", x.count(0, 2), 1);
    CHECKS.due("A is defined", x.defined(0, 65), 1);
    CHECKS.due("B is not there", x.defined(0, 66), -11);
    // Bytes of an earlier tape do not go on behind the end of this one.
    CHECKS.due("a longer tape", Checks.build(x, "class ABCD{}"), 1);
    CHECKS.due("a shorter tape", Checks.build(x, "class A"), Checks.fault(1, 7));
    // Classes, FACES and members of a refused text are none of the next one's.
    String refused = "face class A:A{}face class F{int a();}class B:F{}class G{int g;}";
    CHECKS.due("refused", Checks.build(x, refused + " class"), Checks.fault(1, refused.length() + 6));
    CHECKS.due("good", Checks.build(x, "face class A{}face class F{int a();}class B{}"), 2);
    CHECKS.due("no class more", x.name(2, 3), LinkModels.NONE);
    CHECKS.due("no field", x.count(2, 1), 0);
    CHECKS.due("no circle", x.defined(2, 65), 1);
    CHECKS.due("no face", x.is(2, 66, 70), 0);
    x.use(4, 66, 66, 'a', 0, 0, 0);
    CHECKS.due("no method", x.link(2, 0), -19);
  }
}
