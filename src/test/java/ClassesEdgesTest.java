/** Promises 4, 5, 6, 7 and the terms DEFINED and OF: each sentence with a boundary by itself. */
public final class ClassesEdgesTest {
  private static final Checks CHECKS = new Checks();
  private static final int[] FAR = {-1, 5, 255, 256, Integer.MAX_VALUE, Integer.MIN_VALUE};
  // A class of each ERROR, by which another one may be left without a definition.
  private static final String WRONG = "class W2<Z{}class W3<W3{}class W4<F{}face class F{}class W5<L{}final class L{}";
  private static final String[] WRONG_NAMES = {"Z", "W2", "W3", "W4", "W5"};

  public static void main(String[] args) {
    noClass();
    circleAbove();
    circleByFaces();
    circleOfAll();
    circleLedTo();
    circleAheadOfOthers();
    aboveNotDefined();
    aboveIsAFace();
    classIsAFace();
    aboveIsFinal();
    errorsOfAboveInOrder();
    aboveAheadOfFaces();
    faceNotDefined();
    faceIsNone();
    errorsOfAFaceInOrder();
    facesInOrder();
    definedUnknown();
    namesByBytes();
    eachBuildByItself();
    countClasses();
    countFields();
    countMethods();
    countConstants();
    countOfAFullBuild();
    countUnknown();
    countOutside();
    nameOfEach();
    nameNone();
    nameUnknown();
    ofItself();
    ofAbove();
    ofFaces();
    ofNoOther();
    isErrorOfTheFirst();
    isErrorOfTheOther();
    isUnknown();
    CHECKS.end();
  }

  private static void defined(String text, String name, int want) {
    LinkModels x = Checks.model(text);
    CHECKS.due(text + " defined " + name, x.defined(0, Checks.name(name)), want);
  }

  private static String classes(int count) {
    StringBuilder text = new StringBuilder();
    for (int i = 0; i < count; i++) {
      text.append("class C").append(i).append("{}");
    }
    return text.toString();
  }

  /** "1 NO CLASS: it is not there." */
  private static void noClass() {
    defined("", "A", -11);
    defined("class A{}", "B", -11);
    defined("class A{}", "AA", -11);
    defined("class AA{}", "A", -11);
    // Asked for by another class is not there.
    defined("class A<B:C{D d;E e(G);}", "B", -11);
    defined("class A<B:C{D d;E e(G);}", "C", -11);
    defined("class A<B:C{D d;E e(G);}", "D", -11);
    defined("class A{}", "A", 1);
  }

  /** "3 CIRCLE: one comes from it to itself by ABOVE .." */
  private static void circleAbove() {
    defined("class A<A{}", "A", -13);
    defined("class A<B{}class B<A{}", "A", -13);
    defined("class A<B{}class B<A{}", "B", -13);
    defined("class A<B{}class B<C{}class C<A{}", "B", -13);
  }

  /** "3 CIRCLE: one comes from it to itself by .. FACES" */
  private static void circleByFaces() {
    defined("face class A:A{}", "A", -13);
    defined("face class A:B,C,A{}face class B{}face class C{}", "A", -13);
    defined("face class A:B,C{}face class B{}face class C:B,B,A{}", "A", -13);
    defined("face class A:B,C{}face class B{}face class C:B,B,A{}", "C", -13);
    defined("face class A:B,C{}face class B{}face class C:B,B,A{}", "B", 1);
    // Both ways in one circle.
    defined("class A<B{}class B:C{}face class C<A{}", "A", -13);
    defined("class A<B{}class B:C{}face class C<A{}", "C", -13);
    // One FACE by two ways is no circle.
    defined("class A:B,C{}face class B:D{}face class C:D{}face class D{}", "A", 1);
    defined("class A<B:F{}class B:F{}face class F{}", "A", 1);
  }

  /** "3 CIRCLE": of all 16 classes, too. */
  private static void circleOfAll() {
    StringBuilder text = new StringBuilder();
    for (int i = 0; i < 16; i++) {
      text.append("class C").append(i).append('<').append('C').append((i + 1) % 16).append("{}");
    }
    LinkModels x = Checks.model(text.toString());
    for (int i = 0; i < 16; i++) {
      CHECKS.due("class " + i, x.defined(0, Checks.name("C" + i)), -13);
    }
  }

  /** "one comes from it to itself": who only comes to a circle is not in one. */
  private static void circleLedTo() {
    defined("class A<B{}class B<B{}", "A", -12);
    defined("class B<B{}class A<B{}", "A", -12);
    defined("class A:B{}face class B:C{}face class C:B{}", "A", -12);
    defined("class A<B{}class B<C{}class C<C{}", "A", -12);
  }

  /** "3 CIRCLE" comes ahead of what is ABOVE and of FACES. */
  private static void circleAheadOfOthers() {
    defined("class A<Z:A{}", "A", -13);
    defined("class A<A:Z{}", "A", -13);
    defined("face class A<A{}", "A", -13);
    defined("class A<B{}final class B<A{}", "A", -13);
    defined("class A:B{}class B:A{}", "A", -13);
    defined("class A:Z,A{}", "A", -13);
    // The circle counts, though a class on the way is without a definition besides.
    defined("class A<B{}class B<Z:C{}class C<A{}", "A", -13);
  }

  /** "Of what is ABOVE (but the ROOT): 2 NO DEFINITION: it is not DEFINED" */
  private static void aboveNotDefined() {
    for (String wrong : WRONG_NAMES) {
      defined(WRONG + "class A<" + wrong + "{}", "A", -12);
      defined("class A<" + wrong + "{}" + WRONG, "A", -12);
    }
    defined("class A<B{}class B<C{}class C<Z{}", "A", -12);
    defined("class A<B{}class B{}", "A", 1);
    defined("class A{}", "A", 1);
  }

  /** "4 INCOMPATIBLE: it is a face" */
  private static void aboveIsAFace() {
    defined("class A<B{}face class B{}", "A", -14);
    defined("abstract class A<B{}face class B{}", "A", -14);
    defined("class A<B:B{}face class B{}", "A", -14);
    defined("class A<B{}abstract class B{}", "A", 1);
  }

  /** "4 INCOMPATIBLE: .. or the class is one" */
  private static void classIsAFace() {
    defined("face class A<B{}class B{}", "A", -14);
    defined("face class A<B{}abstract class B{}", "A", -14);
    defined("face class A<B{}face class B{}", "A", -14);
    // What is ABOVE a face without one told is the ROOT, which is not looked at.
    defined("face class A{}", "A", 1);
  }

  /** "5 FINAL: it is final" */
  private static void aboveIsFinal() {
    defined("class A<B{}final class B{}", "A", -15);
    defined("final class A<B{}final class B{}", "A", -15);
    defined("final class A<B{}class B{}", "A", 1);
    defined("class A<B{}final class B{}", "B", 1);
  }

  /** "the first one": 2, 4, 5 of what is ABOVE. */
  private static void errorsOfAboveInOrder() {
    defined("face class A<B{}", "A", -12);
    defined("class A<B{}face class B:Z{}", "A", -12);
    defined("class A<B{}final class B<Z{}", "A", -12);
    defined("face class A<B{}final class B{}", "A", -14);
  }

  /** "Then of each FACE": behind all of what is ABOVE. */
  private static void aboveAheadOfFaces() {
    defined("class A<Z:B{}class B{}", "A", -12);
    defined("class A<B:Z{}face class B{}", "A", -14);
    defined("face class A<B:Z{}class B{}", "A", -14);
    defined("class A<B:Z{}final class B{}", "A", -15);
    defined("class A<B:C{}final class B{}class C{}", "A", -15);
    defined("class A<B:Z{}class B{}", "A", -12);
    defined("class A<B:C{}class B{}class C{}", "A", -14);
  }

  /** "of each FACE, in order: 2 it is not DEFINED" */
  private static void faceNotDefined() {
    for (String wrong : WRONG_NAMES) {
      defined(WRONG + "class A:" + wrong + "{}", "A", -12);
      defined(WRONG + "class A:F,F," + wrong + "{}", "A", -12);
    }
    defined("face class A:B{}face class B:C{}face class C:Z{}", "A", -12);
  }

  /** "4 it is no face" */
  private static void faceIsNone() {
    defined("class A:B{}class B{}", "A", -14);
    defined("class A:B{}abstract class B{}", "A", -14);
    defined("class A:B{}final class B{}", "A", -14);
    defined("face class A:B{}class B{}", "A", -14);
    defined("class A:B{}face class B{}", "A", 1);
    defined("face class A:B{}face class B{}", "A", 1);
  }

  /** "of each FACE ..: 2 .. 4": of one FACE 2 comes first. */
  private static void errorsOfAFaceInOrder() {
    defined("class A:B{}class B<Z{}", "A", -12);
    defined("class A:B{}class B:Z{}", "A", -12);
  }

  /** "of each FACE, in order": all of one, then the next. */
  private static void facesInOrder() {
    defined("class A:B,Z{}class B{}", "A", -14);
    defined("class A:Z,B{}class B{}", "A", -12);
    defined("class A:F,B,Z{}face class F{}class B{}", "A", -14);
    defined("class A:F,F,B{}face class F{}class B{}", "A", -14);
    defined("class A:F,F,F{}face class F{}", "A", 1);
    defined("class A:F,F,F{}class B:Z{}face class F{}", "A", 1);
    defined("face class F{}" + classes(14) + "class A:F,F,F{}", "A", 1);
  }

  /** "UNKNOWN" of defined */
  private static void definedUnknown() {
    LinkModels x = Checks.model("class A{}", "class B{}");
    for (int build : FAR) {
      CHECKS.due("defined in " + build, x.defined(build, 'A'), LinkModels.UNKNOWN);
    }
    CHECKS.due("defined in 2", x.defined(2, 'A'), LinkModels.UNKNOWN);
    CHECKS.due("unknown ahead of errors", x.defined(2, 'Z'), LinkModels.UNKNOWN);
  }

  /** "NAMES are told by the bytes of an int (the highest first, 0s ahead)" */
  private static void namesByBytes() {
    LinkModels x = Checks.model("class AB{}class C{}");
    CHECKS.due("0s ahead", x.defined(0, 0x00004142), 1);
    CHECKS.due("0s behind", x.defined(0, 0x41420000), -11);
    CHECKS.due("the lowest first", x.defined(0, 0x00004241), -11);
    CHECKS.due("more ahead", x.defined(0, 0x20004142), -11);
    CHECKS.due("one byte of it", x.defined(0, 0x42), -11);
    CHECKS.due("in small letters", x.defined(0, 0x6162), -11);
    CHECKS.due("C with a high bit", x.defined(0, 0x80000043), -11);
    CHECKS.due("none", x.defined(0, 0), -11);
    CHECKS.due("-1", x.defined(0, -1), -11);
  }

  /** "DEFINED in a BUILD": what other BUILDS have does not count. */
  private static void eachBuildByItself() {
    LinkModels x = Checks.model("class B{}", "class A<B{}", "final class B{}class A<B{}", "class B{}class A<B{}", "");
    int[] want = {-11, -12, -15, 1, -11};
    for (int b = 0; b < want.length; b++) {
      CHECKS.due("in build " + b, x.defined(b, 'A'), want[b]);
    }
  }

  /** "How many classes (what = 0)": those without a definition, too. */
  private static void countClasses() {
    LinkModels x = Checks.model("", "class A{}", "class A<A{}class B<Z{}face class F{}");
    CHECKS.due("none", x.count(0, 0), 0);
    CHECKS.due("one", x.count(1, 0), 1);
    CHECKS.due("three", x.count(2, 0), 3);
  }

  /** "FIELDS (1)": CONSTANTS are FIELDS. */
  private static void countFields() {
    LinkModels x = Checks.model("class A{}", "class A{int a();}", "class A{int a;}class B<B{static final int a=0;}");
    CHECKS.due("none", x.count(0, 1), 0);
    CHECKS.due("no method", x.count(1, 1), 0);
    CHECKS.due("two", x.count(2, 1), 2);
  }

  /** "METHODS (2)" */
  private static void countMethods() {
    LinkModels x = Checks.model("class A{}", "class A{int a;}",
        "class A{int a();abstract int a(int);}face class F{hidden static int a();}");
    CHECKS.due("none", x.count(0, 2), 0);
    CHECKS.due("no field", x.count(1, 2), 0);
    CHECKS.due("three", x.count(2, 2), 3);
  }

  /** "CONSTANTS (3)": with = alone. */
  private static void countConstants() {
    LinkModels x = Checks.model("class A{}", "class A{static final int a;}",
        "class A{static final int a=0;}class B{hidden static final int a=1;int b;int c();}");
    CHECKS.due("none", x.count(0, 3), 0);
    CHECKS.due("no field without a number", x.count(1, 3), 0);
    CHECKS.due("two", x.count(2, 3), 2);
  }

  /** "(16 classes at most)", "(12 members a class ..)": all of them are counted. */
  private static void countOfAFullBuild() {
    StringBuilder text = new StringBuilder();
    for (int i = 0; i < 16; i++) {
      text.append("class C").append(i).append("{Aa;Ab;Ac;Aa();Ab();Ac();}");
    }
    LinkModels x = Checks.model(text.toString());
    CHECKS.due("classes", x.count(0, 0), 16);
    CHECKS.due("fields", x.count(0, 1), 48);
    CHECKS.due("methods", x.count(0, 2), 48);
    CHECKS.due("constants", x.count(0, 3), 0);
    LinkModels y = Checks.model("class A{Aa;Ab;Ac;Ad;Ae;Af;Ag;Ah;Ai;Aj;Ak;static final int l=1;}");
    CHECKS.due("fields", y.count(0, 1), 12);
    CHECKS.due("constants", y.count(0, 3), 1);
  }

  /** "UNKNOWN" of count, ahead of OUTSIDE */
  private static void countUnknown() {
    LinkModels x = Checks.model("class A{}");
    for (int build : FAR) {
      CHECKS.due("count in " + build, x.count(build, 0), LinkModels.UNKNOWN);
      CHECKS.due("count in " + build + " of what is not", x.count(build, 4), LinkModels.UNKNOWN);
    }
    CHECKS.due("count in 1", x.count(1, 0), LinkModels.UNKNOWN);
  }

  /** "OUTSIDE" of count */
  private static void countOutside() {
    LinkModels x = Checks.model("class A{}");
    int[] wrong = {-1, 4, 5, 256, Integer.MAX_VALUE, Integer.MIN_VALUE};
    for (int what : wrong) {
      CHECKS.due("count of " + what, x.count(0, what), LinkModels.OUTSIDE);
    }
    CHECKS.due("3 is not outside", x.count(0, 3), 0);
  }

  /** "Class i of a BUILD (from 0, as they stand): its NAME" */
  private static void nameOfEach() {
    StringBuilder text = new StringBuilder();
    for (int i = 15; i >= 0; i--) {
      text.append("class C").append(i).append("{}");
    }
    LinkModels x = Checks.model(text.toString(), "class ZZZZ<Y{}class A<A{}face class B9{}");
    for (int i = 0; i < 16; i++) {
      CHECKS.due("name " + i, x.name(0, i), Checks.name("C" + (15 - i)));
    }
    CHECKS.due("name of 4", x.name(1, 0), 0x5a5a5a5a);
    CHECKS.due("name of 1", x.name(1, 1), 0x41);
    CHECKS.due("name of 2", x.name(1, 2), 0x4239);
  }

  /** "NONE" of name */
  private static void nameNone() {
    LinkModels x = Checks.model("", "class A{}");
    CHECKS.due("of an empty build", x.name(0, 0), LinkModels.NONE);
    CHECKS.due("behind the last", x.name(1, 1), LinkModels.NONE);
    for (int i : new int[] {-1, 15, 16, 17, Integer.MAX_VALUE, Integer.MIN_VALUE}) {
      CHECKS.due("name " + i, x.name(1, i), LinkModels.NONE);
    }
  }

  /** "UNKNOWN" of name, ahead of NONE */
  private static void nameUnknown() {
    LinkModels x = Checks.model("class A{}");
    for (int build : FAR) {
      CHECKS.due("name in " + build, x.name(build, 0), LinkModels.UNKNOWN);
      CHECKS.due("no name in " + build, x.name(build, -1), LinkModels.UNKNOWN);
    }
    CHECKS.due("name in 1", x.name(1, 0), LinkModels.UNKNOWN);
  }

  private static void is(String text, char name, char other, int want) {
    LinkModels x = Checks.model(text);
    CHECKS.due(text + " is " + name + " of " + other, x.is(0, name, other), want);
  }

  /** "A class is OF another one: the same" */
  private static void ofItself() {
    is("class A{}", 'A', 'A', 1);
    is("face class A{}", 'A', 'A', 1);
    is("class B{}class A<B{}", 'A', 'A', 1);
  }

  /** "what is ABOVE it is OF that" */
  private static void ofAbove() {
    is("class A<B{}class B{}", 'A', 'B', 1);
    is("class A<B{}class B<C{}class C{}", 'A', 'C', 1);
    is("class A<B{}class B:F{}face class F:G{}face class G{}", 'A', 'G', 1);
    StringBuilder chain = new StringBuilder("class A<B{}");
    for (char c = 'B'; c < 'P'; c++) {
      chain.append("class ").append(c).append('<').append((char) (c + 1)).append("{}");
    }
    is(chain + "class P{}", 'A', 'P', 1);
    is(chain + "class P{}", 'P', 'A', 0);
  }

  /** "or a FACE of it is" */
  private static void ofFaces() {
    String three = "class A:F,G,H{}face class F{}face class G{}face class H:K{}face class K{}";
    is(three, 'A', 'F', 1);
    is(three, 'A', 'G', 1);
    is(three, 'A', 'H', 1);
    is(three, 'A', 'K', 1);
    is(three, 'H', 'K', 1);
    StringBuilder chain = new StringBuilder();
    for (char c = 'A'; c < 'P'; c++) {
      chain.append("face class ").append(c).append(':').append((char) (c + 1)).append("{}");
    }
    is(chain + "face class P{}", 'A', 'P', 1);
  }

  /** "1, 0" */
  private static void ofNoOther() {
    is("class A{}class B{}", 'A', 'B', 0);
    is("class A<B{}class B{}", 'B', 'A', 0);
    is("class A:F{}face class F{}", 'F', 'A', 0);
    is("class A<C{}class B<C{}class C{}", 'A', 'B', 0);
    is("class A:F{}class B:F{}face class F{}", 'A', 'B', 0);
    // The FACES of the next class are none of its own.
    is("class A:F,F,F{}class B:G{}face class F{}face class G{}", 'A', 'G', 0);
  }

  /** "the ERROR of the first" */
  private static void isErrorOfTheFirst() {
    LinkModels x = Checks.model(WRONG + "class A{}");
    for (int i = 0; i < WRONG_NAMES.length; i++) {
      int wrong = Checks.name(WRONG_NAMES[i]);
      CHECKS.due("of one that is defined", x.is(0, wrong, 'A'), -11 - i);
      CHECKS.due("of itself", x.is(0, wrong, wrong), -11 - i);
      for (String other : WRONG_NAMES) {
        CHECKS.due("ahead of the other's", x.is(0, wrong, Checks.name(other)), -11 - i);
      }
    }
  }

  /** "then of the other one": 1 stays 1. */
  private static void isErrorOfTheOther() {
    LinkModels x = Checks.model(WRONG + "class A{}");
    for (int i = 0; i < WRONG_NAMES.length; i++) {
      CHECKS.due("the other's", x.is(0, 'A', Checks.name(WRONG_NAMES[i])), -11 - i);
    }
  }

  /** "UNKNOWN" of is */
  private static void isUnknown() {
    LinkModels x = Checks.model("class A{}");
    for (int build : FAR) {
      CHECKS.due("is in " + build, x.is(build, 'A', 'A'), LinkModels.UNKNOWN);
      CHECKS.due("ahead of errors", x.is(build, 'Z', 'Z'), LinkModels.UNKNOWN);
    }
    CHECKS.due("is in 1", x.is(1, 'A', 'A'), LinkModels.UNKNOWN);
  }
}
