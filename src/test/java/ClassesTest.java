/** Promises 4, 5, 6, 7: what is DEFINED, counted, named, and OF what. */
public final class ClassesTest {
  private static final Checks CHECKS = new Checks();

  public static void main(String[] args) {
    errors();
    circles();
    deep();
    counts();
    names();
    isOf();
    CHECKS.end();
  }

  private static void defined(String text, String name, int want) {
    LinkModels x = Checks.model(text);
    CHECKS.due(text + " defined " + name, x.defined(0, Checks.name(name)), want);
  }

  private static void errors() {
    defined("class A{}", "A", 1);
    defined("", "A", -11);
    defined("class A{}", "", -11);
    defined("class A{}", "B", -11);
    defined("class A<B{}", "A", -12);
    defined("class A<B{}class B{}", "A", 1);
    defined("class A<B{}abstract class B{}", "A", 1);
    defined("final class A<B{}class B<C{}class C{}", "A", 1);
    defined("class A<B{}face class B{}", "A", -14);
    defined("face class A<B{}class B{}", "A", -14);
    defined("face class A<B{}face class B{}", "A", -14);
    defined("face class A<B{}", "A", -12);
    defined("class A<B{}final class B{}", "A", -15);
    defined("face class A<B{}final class B{}", "A", -14);
    defined("class A:F{}face class F{}", "A", 1);
    defined("face class A:F{}face class F{}", "A", 1);
    defined("class A:F{}class F{}", "A", -14);
    defined("class A:F{}final class F{}", "A", -14);
    defined("class A:F{}", "A", -12);
    defined("class A:F,G{}class F{}", "A", -14);
    defined("class A:G,F{}class F{}", "A", -12);
    defined("class A:F,G{}face class F{}", "A", -12);
    defined("class A:F,F,F{}face class F{}", "A", 1);
    // What is ABOVE comes before FACES.
    defined("class A<B:G{}final class B{}", "A", -15);
    defined("class A<B:C{}class C{}", "A", -12);
    defined("class A<B:G{}class B{}", "A", -12);
    LinkModels x = Checks.model("class A{}");
    CHECKS.due("no build 1", x.defined(1, 65), LinkModels.UNKNOWN);
    CHECKS.due("no build -1", x.defined(-1, 65), LinkModels.UNKNOWN);
    CHECKS.due("a name with 0s behind", x.defined(0, 0x41000000), -11);
    CHECKS.due("no name", x.defined(0, -1), -11);
  }

  private static void circles() {
    defined("class A<A{}", "A", -13);
    defined("class A:A{}", "A", -13);
    defined("class A<B{}class B<A{}", "B", -13);
    String mixed = "class A<B{}class B:C{}face class C<A{}class D<A{}class E<D{}";
    defined(mixed, "A", -13);
    defined(mixed, "B", -13);
    defined(mixed, "C", -13);
    defined(mixed, "D", -12);
    defined(mixed, "E", -12);
    // The circle comes before any error of what is ABOVE.
    defined("class A<Z:A{}", "A", -13);
    defined("final class B<A{}class A<B{}", "A", -13);
  }

  private static void deep() {
    StringBuilder chain = new StringBuilder();
    for (int i = 0; i < 15; i++) {
      chain.append("class C").append(i).append("<C").append(i + 1).append("{}");
    }
    LinkModels x = Checks.model(chain + "class C15{}", chain + "final class C15{}", chain.toString());
    for (int i = 0; i < 15; i++) {
      CHECKS.due("chain " + i, x.defined(0, Checks.name("C" + i)), 1);
      CHECKS.due("chain final " + i, x.defined(1, Checks.name("C" + i)), i == 14 ? -15 : -12);
      CHECKS.due("chain open " + i, x.defined(2, Checks.name("C" + i)), -12);
    }
    CHECKS.due("end", x.is(0, Checks.name("C0"), Checks.name("C15")), 1);
    CHECKS.due("back", x.is(0, Checks.name("C15"), Checks.name("C0")), 0);
  }

  private static void counts() {
    LinkModels x = Checks.model("",
        "class A{int a;static final int b=1;int c();}face class F{static final int b=2;hidden static final int c=3;}");
    CHECKS.due("classes of none", x.count(0, 0), 0);
    CHECKS.due("fields of none", x.count(0, 1), 0);
    CHECKS.due("classes", x.count(1, 0), 2);
    CHECKS.due("fields", x.count(1, 1), 4);
    CHECKS.due("methods", x.count(1, 2), 1);
    CHECKS.due("constants", x.count(1, 3), 3);
    CHECKS.due("outside 4", x.count(1, 4), LinkModels.OUTSIDE);
    CHECKS.due("outside -1", x.count(1, -1), LinkModels.OUTSIDE);
    CHECKS.due("unknown first", x.count(2, 4), LinkModels.UNKNOWN);
    CHECKS.due("unknown", x.count(-1, 0), LinkModels.UNKNOWN);
  }

  private static void names() {
    LinkModels x = Checks.model("class ZZZZ{}class B<C{}face class A9{}");
    CHECKS.due("name 0", x.name(0, 0), 0x5a5a5a5a);
    CHECKS.due("name 1", x.name(0, 1), 66);
    CHECKS.due("name 2", x.name(0, 2), 0x4139);
    CHECKS.due("name 3", x.name(0, 3), LinkModels.NONE);
    CHECKS.due("name 16", x.name(0, 16), LinkModels.NONE);
    CHECKS.due("name -1", x.name(0, -1), LinkModels.NONE);
    CHECKS.due("name unknown", x.name(1, 0), LinkModels.UNKNOWN);
    CHECKS.due("name least", x.name(Integer.MIN_VALUE, Integer.MIN_VALUE), LinkModels.UNKNOWN);
  }

  private static void isOf() {
    LinkModels x = Checks.model(
        "class A<B:F{}class B<C{}class C:H{}face class F:G{}face class G{}face class H{}class X<Y{}class Z<Z{}");
    String[] names = {"A", "B", "C", "F", "G", "H"};
    String[] of = {"ABCFGH", "BCH", "CH", "FG", "G", "H"};
    for (int i = 0; i < names.length; i++) {
      for (String other : names) {
        int want = of[i].contains(other) ? 1 : 0;
        CHECKS.due(names[i] + " is of " + other, x.is(0, Checks.name(names[i]), Checks.name(other)), want);
      }
    }
    CHECKS.due("error of the first", x.is(0, Checks.name("X"), Checks.name("Z")), -12);
    CHECKS.due("error of the first", x.is(0, Checks.name("Z"), Checks.name("X")), -13);
    CHECKS.due("error of the other", x.is(0, Checks.name("A"), Checks.name("X")), -12);
    CHECKS.due("error of the other", x.is(0, Checks.name("A"), Checks.name("Y")), -11);
    CHECKS.due("no class", x.is(0, Checks.name("Y"), Checks.name("Z")), -11);
    CHECKS.due("unknown", x.is(1, Checks.name("Y"), Checks.name("Z")), LinkModels.UNKNOWN);
  }
}
