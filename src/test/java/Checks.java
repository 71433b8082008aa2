import java.nio.charset.StandardCharsets;

/** What the tests share: texts fed to a model, names as numbers, and answers held against those due. */
final class Checks {
  private int wrong = 0;
  private int made = 0;

  void due(String what, long got, long want) {
    made++;
    if (got != want) {
      wrong++;
      if (wrong <= 40) {
        System.out.println(what + " answered " + got + ", due is " + want);
      }
    }
  }

  void end() {
    System.out.println(made + " answers looked at, " + wrong + " wrong");
    if (wrong != 0) {
      System.exit(1);
    }
  }

  static int name(String text) {
    return (int) word(text);
  }

  static long word(String text) {
    long value = 0;
    for (byte b : text.getBytes(StandardCharsets.ISO_8859_1)) {
      value = value << 8 | b & 255;
    }
    return value;
  }

  static void feed(LinkModels x, String text) {
    for (int at = 0; at < text.length(); at += 8) {
      String part = text.substring(at, Math.min(text.length(), at + 8));
      if (x.feed(word(part), part.length()) < 0) {
        throw new IllegalStateException("the tape does not take: " + part);
      }
    }
  }

  static int build(LinkModels x, String text) {
    feed(x, text);
    return x.build();
  }

  static int fault(int fault, int place) {
    return -10000 - 1000 * fault - place;
  }

  static LinkModels model(String... texts) {
    LinkModels x = new LinkModels();
    for (String text : texts) {
      if (build(x, text) < 0) {
        throw new IllegalStateException("no build: " + text);
      }
    }
    return x;
  }

  void good(String text) {
    due(text, build(new LinkModels(), text), 0);
  }

  /** The fault is due where the mark ^ stands, which is taken out. */
  void bad(int fault, String marked) {
    int place = marked.indexOf('^');
    String text = marked.substring(0, place) + marked.substring(place + 1);
    due(text, build(new LinkModels(), text), fault(fault, place));
  }

  static int use(LinkModels x, int kind, String caller, String owner, String word, String... types) {
    int first = types.length > 0 ? type(types[0]) : 77;
    int second = types.length > 1 ? type(types[1]) : 77;
    return x.use(kind, name(caller), name(owner), word(word), types.length, first, second);
  }

  private static int type(String text) {
    return text.equals("int") ? 0 : text.equals("long") ? 1 : name(text);
  }

  /** In a text the use LINKS to a place of a class; where the class is below 0, to that ERROR. */
  void links(String text, int want, int place, int kind, String... told) {
    LinkModels x = model(text);
    String[] types = new String[told.length - 3];
    System.arraycopy(told, 3, types, 0, types.length);
    int use = use(x, kind, told[0], told[1], told[2], types);
    String what = text + " kind " + kind + " " + String.join(" ", told);
    due(what + " link", x.link(0, use), want);
    due(what + " member", x.member(0, use), want < 0 ? want : place);
  }

  void fails(String text, int error, int kind, String... told) {
    links(text, -10 - error, 0, kind, told);
  }

  /** In build 0 the METHOD done stands at a place of a class; where the class is below 0, that ERROR. */
  void done(LinkModels x, int use, String receiver, int want, int place) {
    due("done " + use + " " + receiver, x.done(0, use, name(receiver)), want);
    int member = x.doneMember(0, use, name(receiver));
    due("doneMember " + use + " " + receiver, member, want < 0 ? want : place);
  }

  /**
   * 1 for an IllegalArgumentException, 2 for an ArithmeticException, else 1000 more than the share; 3 for the
   * ArithmeticException that the machine throws of itself, which is not to happen.
   */
  static int share(LinkModels x, int build) {
    try {
      return 1000 + x.share(build);
    } catch (IllegalArgumentException e) {
      return 1;
    } catch (ArithmeticException e) {
      return "/ by zero".equals(e.getMessage()) ? 3 : 2;
    }
  }
}
