import java.nio.charset.StandardCharsets;

/** What the tests share: texts fed to a model, names as numbers, and answers held against those due. */
final class Checks {
  private int wrong = 0;
  private int made = 0;

  void due(String what, long got, long want) {
    made++;
    if (got != want) {
      wrong++;
      if (wrong <= 40) {
        System.out.println(what + " answered " + got + ", due is " + want);
      }
    }
  }

  void end() {
    System.out.println(made + " answers looked at, " + wrong + " wrong");
    if (wrong != 0) {
      System.exit(1);
    }
  }

  static int name(String text) {
    return (int) word(text);
  }

  static long word(String text) {
    long value = 0;
    for (byte b : text.getBytes(StandardCharsets.ISO_8859_1)) {
      value = value << 8 | b & 255;
    }
    return value;
  }

  static void feed(LinkModels x, String text) {
    for (int at = 0; at < text.length(); at += 8) {
      String part = text.substring(at, Math.min(text.length(), at + 8));
      if (x.feed(word(part), part.length()) < 0) {
        throw new IllegalStateException("the tape does not take: " + part);
      }
    }
  }

  static int build(LinkModels x, String text) {
    feed(x, text);
    return x.build();
  }

  static int fault(int fault, int place) {
    return -10000 - 1000 * fault - place;
  }

  static LinkModels model(String... texts) {
    LinkModels x = new LinkModels();
    for (String text : texts) {
      if (build(x, text) < 0) {
        throw new IllegalStateException("no build: " + text);
      }
    }
    return x;
  }

  /** 1 for an IllegalArgumentException, 2 for an ArithmeticException, else 1000 more than the share. */
  static int share(LinkModels x, int build) {
    try {
      return 1000 + x.share(build);
    } catch (IllegalArgumentException e) {
      return 1;
    } catch (ArithmeticException e) {
      return 2;
    }
  }
}
