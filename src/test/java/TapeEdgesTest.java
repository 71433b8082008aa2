/** Promises 1, 2, 3, 17 and the terms of THE TAPE and its TOKENS: each sentence with a boundary by itself. */
public final class TapeEdgesTest {
  private static final Checks CHECKS = new Checks();
  private static final long BLANKS = 0x2020202020202020L;

  public static void main(String[] args) {
    tapeHas800Bytes();
    lastBytesOfAFullTape();
    calls512();
    builds5();
    tokensAsLongAsCanBe();
    blanksAsOneLikes();
    otherBytesAreNoBlanks();
    names4();
    nameLetters();
    words8();
    wordLetters();
    numbers6();
    numberDigits();
    signs();
    newObject();
    feedLowestBytes();
    feedHowMany();
    feedOutside();
    feedFull();
    feedRefusedChangesNothing();
    buildNumber();
    buildOfAnEmptyTape();
    buildFaultAnswer();
    buildFaultUsesTheTapeUp();
    buildFaultChangesNothing();
    buildFaultLeavesNothing();
    buildFull();
    buildFullAheadOfFaults();
    toldBytes();
    toldBuilds();
    toldUses();
    toldOutside();
    CHECKS.end();
  }

  private static String blanks(int count) {
    return " ".repeat(count);
  }

  /** "THE TAPE has 800 bytes at most." */
  private static void tapeHas800Bytes() {
    for (int n = 2; n <= 8; n++) {
      LinkModels x = new LinkModels();
      int length = 0;
      while (length + n <= 800) {
        length += n;
        CHECKS.due("feed " + n, x.feed(BLANKS, n), length);
      }
      CHECKS.due("no more by " + n, x.feed(BLANKS, n), LinkModels.FULL);
      while (length < 800) {
        length++;
        CHECKS.due("the rest", x.feed(BLANKS, 1), length);
      }
      CHECKS.due("none behind 800", x.feed(BLANKS, 1), LinkModels.FULL);
      CHECKS.due("told", x.told(0), 800);
    }
  }

  /** "THE TAPE has 800 bytes at most": all of them are read. */
  private static void lastBytesOfAFullTape() {
    LinkModels x = Checks.model("class A{}" + blanks(782) + "class B{}");
    CHECKS.due("a class that ends at 800", x.name(0, 1), 'B');
    CHECKS.bad(1, "class A{}" + blanks(783) + "class B{^");
    CHECKS.bad(1, "class A{}" + blanks(790) + "^.");
    CHECKS.bad(3, "class A{}" + blanks(784) + "class ^A");
  }

  /** "An object is used for at most 512 calls": the 512th answers as the others do. */
  private static void calls512() {
    LinkModels x = new LinkModels();
    for (int i = 0; i < 256; i++) {
      CHECKS.due("feed", x.feed('.', 1), 1);
      CHECKS.due("build", x.build(), Checks.fault(1, 0));
    }
    LinkModels y = new LinkModels();
    int calls = 0;
    for (int b = 0; b < 5; b++) {
      CHECKS.due("feed", y.feed(Checks.word("class A{"), 8), 8);
      CHECKS.due("feed", y.feed('}', 1), 9);
      CHECKS.due("build", y.build(), b);
      calls += 3;
    }
    for (int u = 0; u < 40; u++) {
      CHECKS.due("use", y.use(9, 'A', 'A', 0, 0, 0, 0), u);
      calls++;
    }
    for (; calls < 512; calls++) {
      CHECKS.due("link", y.link(calls % 5, calls % 40), 0);
    }
  }

  /** "A BUILD (numbered from 0, 5 at most)" */
  private static void builds5() {
    LinkModels x = new LinkModels();
    for (int i = 0; i < 5; i++) {
      CHECKS.due("no build yet", x.count(i, 0), LinkModels.UNKNOWN);
      CHECKS.due("build", Checks.build(x, "class A" + i + "{}"), i);
    }
    CHECKS.due("a sixth", Checks.build(x, "class A5{}"), LinkModels.FULL);
    for (int i = 0; i < 5; i++) {
      CHECKS.due("each is kept", x.name(i, 0), Checks.name("A" + i));
    }
    CHECKS.due("no sixth", x.count(5, 0), LinkModels.UNKNOWN);
  }

  /** "by TOKENS, each as long as can be" */
  private static void tokensAsLongAsCanBe() {
    CHECKS.bad(1, "^faceclass A{}");
    CHECKS.bad(1, "class A{^staticint a;}");
    CHECKS.bad(1, "class A{int^;}");
    CHECKS.bad(1, "class A{^inta;}");
    CHECKS.bad(1, "class ^ABCDEFGH{}");
    CHECKS.bad(1, "class A{int ^aaaaaaaaaaaaaaaa;}");
    CHECKS.bad(1, "class A{static final int a=^1111111111111;}");
    LinkModels x = Checks.model("class A12{}class A1{}class A{}");
    CHECKS.due("digits join a name", x.name(0, 0), Checks.name("A12"));
    CHECKS.good("classA{int ab;}");
    CHECKS.bad(1, "class A{static final int a=1^B;}");
  }

  /** "blanks (32, 10) between as one likes" */
  private static void blanksAsOneLikes() {
    CHECKS.good("classA<B:C,D{staticA a;static final int b=1;A9c(int,A);}");
    CHECKS.good(" \n\n  class\nA \n<\n B :\nC ,\nD\n{ static\nA\na ; void c\n(\nint\n,\nA\n)\n;\n}\n ");
    CHECKS.good("class A{static final int b\n=\n1\n;}" + blanks(500));
    CHECKS.bad(1, "^cl ass A{}");
    CHECKS.bad(1, "class A ^B{}");
  }

  /** "blanks (32, 10)": no other byte is one. */
  private static void otherBytesAreNoBlanks() {
    for (int b = 0; b < 256; b++) {
      String text = "class A{}" + (char) b;
      if (b == 32 || b == 10) {
        CHECKS.good(text);
      } else {
        CHECKS.due("byte " + b, Checks.build(new LinkModels(), text), Checks.fault(1, 9));
      }
    }
  }

  /** "CLASS NAMES (..; of 4 at most)" */
  private static void names4() {
    CHECKS.good("class A<ABCD:EFGH,I000{ABCD a;void b(ZZZZ,Z999);}class WXYZ{}");
    CHECKS.bad(1, "class ^ABCDE{}");
    CHECKS.bad(1, "class ^A0000{}");
    CHECKS.bad(1, "class A<^ABCDE{}");
    CHECKS.bad(1, "class A:^ABCDE{}");
    CHECKS.bad(1, "class A:B,^ABCDE{}");
    CHECKS.bad(1, "class A{^ABCDE a;}");
    CHECKS.bad(1, "class A{static ^ABCDE a;}");
    CHECKS.bad(1, "class A{int a(^ABCDE);}");
    CHECKS.bad(1, "class A{int a(A,^ABCDE);}");
    LinkModels x = Checks.model("class ABCD{}class BBCD{}class BCD{}");
    CHECKS.due("all 4 bytes count", x.defined(0, Checks.name("CBCD")), -11);
    CHECKS.due("the highest, too", x.name(0, 1), 0x42424344);
  }

  /** "CLASS NAMES (a letter A to Z, then A to Z, 0 to 9 ..)" */
  private static void nameLetters() {
    for (int b = 0; b < 256; b++) {
      boolean letter = b >= 'A' && b <= 'Z';
      boolean digit = b >= '0' && b <= '9';
      boolean blank = b == 32 || b == 10;
      int first = Checks.build(new LinkModels(), "class " + (char) b + " {}");
      CHECKS.due("first byte " + b, first, letter ? 0 : Checks.fault(1, blank ? 8 : 6));
      // A sign that may stand behind the NAME leaves the FAULT to what is behind it.
      boolean sign = b == '<' || b == ':' || b == '{';
      int next = Checks.build(new LinkModels(), "class A" + (char) b + "{}");
      CHECKS.due("next byte " + b, next, letter || digit || blank ? 0 : Checks.fault(1, sign ? 8 : 7));
    }
  }

  /** "WORDS (..; 8 at most)" */
  private static void words8() {
    CHECKS.good("class A{int abcdefgh;int zzzzzzzz();}");
    CHECKS.bad(1, "class A{int ^abcdefghi;}");
    CHECKS.bad(1, "class A{int ^abcdefghi();}");
    CHECKS.bad(1, "class A{^abstracts int a();}");
    CHECKS.bad(1, "^abstracts class A{}");
    LinkModels x = Checks.model("class A{int babcdefg;int abcdefg;int aabcdefg;}");
    Checks.use(x, 0, "A", "A", "aabcdefg");
    Checks.use(x, 0, "A", "A", "cabcdefg");
    CHECKS.due("all 8 bytes count", x.member(0, 0), 2);
    CHECKS.due("the highest, too", x.member(0, 1), -17);
  }

  /** "WORDS (letters a to z ..)" */
  private static void wordLetters() {
    for (int b = 0; b < 256; b++) {
      boolean letter = b >= 'a' && b <= 'z';
      boolean blank = b == 32 || b == 10;
      int first = Checks.build(new LinkModels(), "class A{int " + (char) b + " ;}");
      CHECKS.due("first byte " + b, first, letter ? 0 : Checks.fault(1, blank ? 14 : 12));
      // Signs that may stand behind the WORD: ; ends the FIELD, = is that of no constant, ( of a METHOD.
      int want = letter || blank ? 0 : Checks.fault(1, b == ';' || b == '(' ? 14 : 13);
      int next = Checks.build(new LinkModels(), "class A{int a" + (char) b + ";}");
      CHECKS.due("next byte " + b, next, b == '=' ? Checks.fault(4, 13) : want);
    }
  }

  /** "NUMBERS (digits; 6 at most; longer ones cannot stand)" */
  private static void numbers6() {
    CHECKS.good("class A{static final int a=0;static final int b=000000;static final int c=999999;}");
    CHECKS.bad(1, "class A{static final int a=^1000000;}");
    CHECKS.bad(1, "class A{static final int a=^0000001;}");
    CHECKS.bad(1, "class A{static final int a=^4294967296;}");
    CHECKS.bad(1, "class A{static final int a=^18446744073709551616;}");
    // 59 is the byte of a sign that could stand there.
    CHECKS.bad(1, "class A{int a^0000059}");
    LinkModels x = Checks.model("class A{static final int a=999999;static final int b=000019;static final int c=0;}");
    int[] want = {999999, 19, 0};
    for (int i = 0; i < want.length; i++) {
      x.use(2, 'A', 'A', 'a' + i, 0, 0, 0);
      CHECKS.due("compile", x.compile(0, i), 1);
      CHECKS.due("number", x.copied(i), want[i]);
    }
  }

  /** "NUMBERS (digits ..)" */
  private static void numberDigits() {
    for (int b = 0; b < 256; b++) {
      boolean digit = b >= '0' && b <= '9';
      boolean blank = b == 32 || b == 10;
      int first = Checks.build(new LinkModels(), "class A{static final int a=" + (char) b + " ;}");
      CHECKS.due("first byte " + b, first, digit ? 0 : Checks.fault(1, blank ? 29 : 27));
      int next = Checks.build(new LinkModels(), "class A{static final int a=1" + (char) b + ";}");
      CHECKS.due("next byte " + b, next, digit || blank ? 0 : Checks.fault(1, b == ';' ? 29 : 28));
    }
  }

  /** "signs { } ( ) ; , : = <": each is one byte by itself. */
  private static void signs() {
    CHECKS.good("class A<B:C,D{static final int a=1;void b(int,long);}");
    CHECKS.bad(1, "class A<^<B{}");
    CHECKS.bad(1, "class A:^:B{}");
    CHECKS.bad(1, "class A:B,^,C{}");
    CHECKS.bad(1, "class A{^{}");
    CHECKS.bad(1, "class A{}^}");
    CHECKS.bad(1, "class A{static final int a=^=1;}");
    CHECKS.bad(1, "class A{int a;^;}");
    CHECKS.bad(1, "class A{int a(^();}");
    CHECKS.bad(1, "class A{int a()^);}");
  }

  /** "LinkModels(): No BUILDS, no USES." */
  private static void newObject() {
    LinkModels x = new LinkModels();
    CHECKS.due("no bytes", x.told(0), 0);
    CHECKS.due("no builds", x.told(1), 0);
    CHECKS.due("no uses", x.told(2), 0);
    CHECKS.due("no build 0", x.count(0, 0), LinkModels.UNKNOWN);
    CHECKS.due("no use 0", x.copied(0), LinkModels.UNKNOWN);
    Checks.build(x, "class A{}");
    x.use(9, 'A', 'A', 0, 0, 0, 0);
    LinkModels y = new LinkModels();
    CHECKS.due("another object has no builds", y.told(1), 0);
    CHECKS.due("another object has no uses", y.told(2), 0);
  }

  /** "The lowest n bytes of w, the highest of them first, come behind THE TAPE" */
  private static void feedLowestBytes() {
    String text = "class A{int bcdefgh;}class ZYX{}";
    for (int n = 1; n <= 8; n++) {
      LinkModels x = new LinkModels();
      for (int at = 0; at < text.length(); at += n) {
        String part = text.substring(at, Math.min(text.length(), at + n));
        long above = part.length() == 8 ? 0 : -1L << (8 * part.length());
        x.feed(above | Checks.word(part), part.length());
      }
      CHECKS.due("build by " + n, x.build(), 0);
      CHECKS.due("name by " + n, x.name(0, 1), Checks.name("ZYX"));
    }
  }

  /** "how many it has" */
  private static void feedHowMany() {
    LinkModels x = new LinkModels();
    int length = 0;
    for (int n = 1; n <= 8; n++) {
      length += n;
      CHECKS.due("feed " + n, x.feed(0, n), length);
    }
    x.build();
    CHECKS.due("from the start", x.feed(0, 1), 1);
  }

  /** "OUTSIDE: n is not 1 to 8" */
  private static void feedOutside() {
    LinkModels x = new LinkModels();
    int[] wrong = {0, 9, -1, -8, 16, 257, 65537, 800, Integer.MAX_VALUE, Integer.MIN_VALUE};
    for (int n : wrong) {
      CHECKS.due("feed n = " + n, x.feed(BLANKS, n), LinkModels.OUTSIDE);
    }
    CHECKS.due("nothing came", x.told(0), 0);
    CHECKS.due("1 is not outside", x.feed(BLANKS, 1), 1);
    CHECKS.due("8 is not outside", x.feed(BLANKS, 8), 9);
    Checks.feed(x, blanks(791));
    for (int n : wrong) {
      CHECKS.due("ahead of FULL, n = " + n, x.feed(BLANKS, n), LinkModels.OUTSIDE);
    }
  }

  /** "FULL": where not all of the bytes have room. */
  private static void feedFull() {
    for (int n = 1; n <= 8; n++) {
      LinkModels x = new LinkModels();
      Checks.feed(x, blanks(801 - n));
      CHECKS.due("one too many of " + n, x.feed(BLANKS, n), LinkModels.FULL);
      if (n > 1) {
        CHECKS.due("one fewer goes", x.feed(BLANKS, n - 1), 800);
      }
    }
  }

  /** "they change nothing" */
  private static void feedRefusedChangesNothing() {
    LinkModels x = new LinkModels();
    Checks.feed(x, "class A");
    x.feed('B', 0);
    x.feed('B', 9);
    Checks.feed(x, "{}");
    CHECKS.due("build", x.build(), 0);
    CHECKS.due("name", x.name(0, 0), 'A');
    Checks.feed(x, "class B{}" + blanks(787));
    CHECKS.due("full", x.feed(Checks.word("........"), 8), LinkModels.FULL);
    CHECKS.due("bytes", x.told(0), 796);
    Checks.feed(x, "   .");
    CHECKS.due("what came in the end", x.build(), Checks.fault(1, 799));
  }

  /** "THE TAPE is read as a BUILD: its number" */
  private static void buildNumber() {
    LinkModels x = new LinkModels();
    CHECKS.due("the first", Checks.build(x, "class A{}"), 0);
    CHECKS.due("a fault has no number", Checks.build(x, "class"), Checks.fault(1, 5));
    CHECKS.due("the second", Checks.build(x, "class A{}"), 1);
  }

  /** "build: { class }": none, too. */
  private static void buildOfAnEmptyTape() {
    LinkModels x = new LinkModels();
    CHECKS.due("nothing fed", x.build(), 0);
    CHECKS.due("blanks", Checks.build(x, " \n "), 1);
    CHECKS.due("no classes", x.count(0, 0), 0);
    CHECKS.due("no classes", x.count(1, 0), 0);
    CHECKS.due("once more, used up", x.build(), 2);
  }

  /** "-10000 less 1000 times the FAULT, and its place" */
  private static void buildFaultAnswer() {
    CHECKS.due("fault 1 at 0", Checks.build(new LinkModels(), "."), -11000);
    CHECKS.due("fault 1 at 7", Checks.build(new LinkModels(), "class A"), -11007);
    CHECKS.due("fault 2 at 14", Checks.build(new LinkModels(), "class A:B,B,B,B{}"), -12014);
    CHECKS.due("fault 3 at 15", Checks.build(new LinkModels(), "class A{}class A{}"), -13015);
    CHECKS.due("fault 4 at 13", Checks.build(new LinkModels(), "class A{int a=1;}"), -14013);
    CHECKS.due("fault 1 at 800", Checks.build(new LinkModels(), "class" + blanks(795)), -11800);
    CHECKS.due("fault 4 at 799", Checks.build(new LinkModels(), "class A{int a" + blanks(786) + "="), -14799);
  }

  /** "what reads THE TAPE uses it up" */
  private static void buildFaultUsesTheTapeUp() {
    LinkModels x = new LinkModels();
    CHECKS.due("fault", Checks.build(x, "class A{}class"), Checks.fault(1, 14));
    CHECKS.due("no bytes", x.told(0), 0);
    CHECKS.due("the next text stands alone", Checks.build(x, "class B{}"), 0);
    CHECKS.due("no bytes", x.told(0), 0);
    CHECKS.due("its class", x.name(0, 0), 'B');
    CHECKS.due("no other", x.count(0, 0), 1);
  }

  /** "they change nothing": a FAULT leaves BUILDS, USES and what is COPIED. */
  private static void buildFaultChangesNothing() {
    LinkModels x = Checks.model("class A{static final int a=5;}");
    x.use(2, 'A', 'A', 'a', 0, 0, 0);
    x.compile(0, 0);
    CHECKS.due("fault", Checks.build(x, "class A{static final int a=6;}class B{}."), Checks.fault(1, 39));
    CHECKS.due("builds", x.told(1), 1);
    CHECKS.due("uses", x.told(2), 1);
    CHECKS.due("classes", x.count(0, 0), 1);
    CHECKS.due("copied", x.copied(0), 5);
    CHECKS.due("stale", x.stale(0, 0), 0);
    CHECKS.due("no build of the fault", x.count(1, 0), LinkModels.UNKNOWN);
  }

  /** "they change nothing": the next BUILD has nothing of a text that was refused. */
  private static void buildFaultLeavesNothing() {
    LinkModels x = new LinkModels();
    String refused = "class A<B:F,F,F{int a;int b();}class B{}face class F{}class G{}";
    CHECKS.due("refused", Checks.build(x, refused + "."), Checks.fault(1, refused.length()));
    CHECKS.due("the next", Checks.build(x, "class A{}class B{}face class F{}"), 0);
    CHECKS.due("classes", x.count(0, 0), 3);
    CHECKS.due("fields", x.count(0, 1), 0);
    CHECKS.due("methods", x.count(0, 2), 0);
    CHECKS.due("nothing above", x.is(0, 'A', 'B'), 0);
    CHECKS.due("no face", x.is(0, 'A', 'F'), 0);
    CHECKS.due("no class more", x.defined(0, 'G'), -11);
  }

  /** "FULL", and THE TAPE is used up. */
  private static void buildFull() {
    LinkModels x = Checks.model("", "", "", "", "class A{}");
    CHECKS.due("full", Checks.build(x, "class B{}class C{}"), LinkModels.FULL);
    CHECKS.due("no bytes", x.told(0), 0);
    CHECKS.due("builds", x.told(1), 5);
    CHECKS.due("the last is kept", x.name(4, 0), 'A');
    CHECKS.due("with its classes", x.count(4, 0), 1);
    CHECKS.due("full without bytes", x.build(), LinkModels.FULL);
  }

  /** "FULL": no text is looked at where none has room (the document does not tell which is first). */
  private static void buildFullAheadOfFaults() {
    LinkModels x = Checks.model("", "", "", "", "");
    CHECKS.due("full", Checks.build(x, "class A{}."), LinkModels.FULL);
    CHECKS.due("no bytes", x.told(0), 0);
  }

  /** "How many: 0 bytes on THE TAPE" */
  private static void toldBytes() {
    LinkModels x = new LinkModels();
    CHECKS.due("none", x.told(0), 0);
    Checks.feed(x, "class A{}");
    CHECKS.due("9", x.told(0), 9);
    Checks.feed(x, blanks(791));
    CHECKS.due("800", x.told(0), 800);
    x.build();
    CHECKS.due("none", x.told(0), 0);
  }

  /** "1 BUILDS" */
  private static void toldBuilds() {
    LinkModels x = new LinkModels();
    for (int i = 0; i < 5; i++) {
      CHECKS.due("builds", x.told(1), i);
      x.build();
    }
    CHECKS.due("builds", x.told(1), 5);
    x.build();
    CHECKS.due("builds", x.told(1), 5);
  }

  /** "2 USES" */
  private static void toldUses() {
    LinkModels x = new LinkModels();
    for (int i = 0; i < 40; i++) {
      CHECKS.due("uses", x.told(2), i);
      x.use(0, 0, 0, 0, 0, 0, 0);
    }
    CHECKS.due("uses", x.told(2), 40);
    x.use(0, 0, 0, 0, 0, 0, 0);
    CHECKS.due("uses", x.told(2), 40);
  }

  /** "OUTSIDE" of told */
  private static void toldOutside() {
    LinkModels x = new LinkModels();
    int[] wrong = {-1, 3, 4, 256, Integer.MAX_VALUE, Integer.MIN_VALUE};
    for (int what : wrong) {
      CHECKS.due("told " + what, x.told(what), LinkModels.OUTSIDE);
    }
  }
}
