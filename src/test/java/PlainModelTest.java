import java.util.Arrays;
import java.util.Collections;
import java.util.Random;

/** Every promise on drawn texts and calls (the seeds are fixed), against the plain model. */
public final class PlainModelTest {
  private static final Checks CHECKS = new Checks();
  private static final String[] NAMES = {"A", "B", "C", "D", "E", "F", "G", "H", "K9", "Z"};
  // Kinds that more can be asked of: constants are copied into the first, the others are done.
  private static final int[] KINDS = {2, 4, 7};
  private static final String[] WORDS = {"a", "b", "go"};
  private static final String[] PARTS = ("class face abstract final static hidden int long void A B ABCD ABCDE "
      + "a b abcdefgh abcdefghi 1 123456 1234567 { } ( ) ; , : = < . > \t \u00ff").split(" ");

  private final Random random;
  private final LinkModels x = new LinkModels();
  private final PlainModel plain = new PlainModel();
  private final long seed;
  private int calls = 0;
  private static final int[] errorsSeen = new int[21];

  private PlainModelTest(long seed) {
    this.seed = seed;
    random = new Random(seed);
  }

  public static void main(String[] args) {
    int runs = args.length > 0 ? Integer.parseInt(args[0]) : 1500;
    for (int i = 0; i < runs; i++) {
      new PlainModelTest(i).run();
    }
    // A draw that never comes to an error would test nothing of it.
    for (int error = 11; error <= 20; error++) {
      CHECKS.due("error " + error + " was seen", errorsSeen[error] > 0 ? 1 : 0, 1);
    }
    CHECKS.end();
  }

  private boolean chance(int percent) {
    return random.nextInt(100) < percent;
  }

  private String one(String[] of) {
    return of[random.nextInt(of.length)];
  }

  private void due(String what, int got, int want) {
    calls++;
    if (want <= -11 && want >= -20) {
      errorsSeen[-want]++;
    }
    CHECKS.due("seed " + seed + ": " + what, got, want);
  }

  private void run() {
    int texts = 1 + random.nextInt(6);
    for (int i = 0; i < texts; i++) {
      feed(chance(15) ? broken(text()) : text());
      if (chance(30)) {
        due("told", x.told(0), plain.told(0));
      }
      due("build", x.build(), plain.build());
    }
    int uses = random.nextInt(30);
    for (int i = 0; i < uses; i++) {
      use();
    }
    while (calls < 350) {
      call();
    }
  }

  private void feed(String text) {
    for (int at = 0; at < text.length(); ) {
      int n = Math.min(8, text.length() - at);
      long w = Checks.word(text.substring(at, at + n));
      due("feed", x.feed(w, n), plain.feed(w, n));
      at += n;
    }
  }

  private String blank() {
    return chance(80) ? "" : chance(50) ? " " : "\n";
  }

  /** Mostly sound classes: each has what is ABOVE it and its FACES from those with later names. */
  private String text() {
    int count = chance(2) ? 17 : 3 + random.nextInt(NAMES.length - 3);
    boolean[] face = new boolean[count];
    String[] classes = new String[count];
    boolean lean = count > NAMES.length;
    for (int i = count - 1; i >= 0; i--) {
      face[i] = chance(95) ? i >= count / 2 : chance(50);
      classes[i] = classText(i, face, lean);
    }
    if (chance(30)) {
      Collections.shuffle(Arrays.asList(classes), random);
    }
    String text = String.join(blank(), classes);
    return text.length() > 800 ? text.substring(0, 800) : text;
  }

  private String classText(int i, boolean[] face, boolean lean) {
    StringBuilder s = new StringBuilder();
    s.append(face[i] ? "face " : chance(10) ? "abstract " : chance(3) ? "final " : "");
    s.append("class ").append(chance(99) ? nameAt(i) : one(NAMES)).append(blank());
    String above = behind(i, face, false);
    if (above != null && chance(face[i] ? 1 : 60)) {
      s.append('<').append(blank()).append(above);
    }
    int faces = chance(40) ? 0 : 1 + random.nextInt(chance(2) ? 4 : 3);
    for (int k = 0; k < faces; k++) {
      String next = behind(i, face, true);
      if (next != null) {
        s.append(s.indexOf(":") < 0 ? ":" : ",").append(blank()).append(next);
      }
    }
    return s.append('{').append(members(lean)).append('}').toString();
  }

  private static String nameAt(int i) {
    return i < NAMES.length ? NAMES[i] : "N" + i;
  }

  /** A class behind place i that is a face or none, as asked for; now and then any name. */
  private String behind(int i, boolean[] face, boolean asked) {
    if (chance(2)) {
      return one(NAMES);
    }
    int from = i + 1 + random.nextInt(3);
    for (int k = from; k < face.length; k++) {
      if (face[k] == asked) {
        return nameAt(k);
      }
    }
    return null;
  }

  private String members(boolean lean) {
    int count = random.nextInt(lean ? 2 : chance(2) ? 14 : 5);
    StringBuilder s = new StringBuilder();
    String used = " ";
    for (int i = 0; i < count; i++) {
      String made = memberText(i);
      String key = made.replaceAll("^.* ", "").replaceAll("=.*", ";");
      if (!used.contains(" " + key + " ") || chance(1)) {
        s.append(made).append(blank());
        used = used + key + " ";
      }
    }
    return s.toString();
  }

  private String memberText(int i) {
    String word = i > 5 ? "x" + (char) ('a' + i) : one(WORDS);
    switch (random.nextInt(5)) {
      case 0:
        return (chance(20) ? "hidden " : "") + "static final int " + word + "=" + random.nextInt(3) + ";";
      case 1:
        return marks("static ", "hidden ", "final ") + one(new String[] {"int", "long", "A"}) + " " + word + ";";
      case 2:
        return "abstract void " + word + types() + ";";
      default:
        return marks("static ", "hidden ") + one(new String[] {"int", "void", "B"}) + " " + word + types() + ";";
    }
  }

  private String marks(String... all) {
    StringBuilder s = new StringBuilder();
    for (String mark : all) {
      s.append(chance(15) ? mark : "");
    }
    return s.toString();
  }

  private String types() {
    String[] all = {"(int)", "(A)", "(int,long)", "(A,A)"};
    return chance(80) ? "()" : one(all);
  }

  private String broken(String text) {
    StringBuilder s = new StringBuilder(text);
    int breaks = 1 + random.nextInt(2);
    for (int i = 0; i < breaks; i++) {
      int place = random.nextInt(s.length() + 1);
      switch (random.nextInt(4)) {
        case 0:
          s.insert(place, one(PARTS));
          break;
        case 1:
          s.insert(place, " " + one(PARTS) + " ");
          break;
        case 2:
          s.delete(place, Math.min(s.length(), place + 1 + random.nextInt(3)));
          break;
        default:
          s.setLength(place);
          break;
      }
    }
    return s.toString();
  }

  private int name() {
    return chance(1) ? random.nextInt() : Checks.name(NAMES[random.nextInt(chance(60) ? 4 : NAMES.length)]);
  }

  private void use() {
    int good = chance(50) ? KINDS[random.nextInt(KINDS.length)] : random.nextInt(10);
    int kind = chance(1) ? random.nextInt(14) - 2 : good;
    int caller = name();
    int owner = chance(25) ? caller : name();
    long word = chance(1) ? random.nextLong() : Checks.word(one(WORDS));
    int n = chance(1) ? random.nextInt(6) - 2 : chance(80) ? 0 : random.nextInt(3);
    int first = chance(50) ? 0 : chance(50) ? 65 : random.nextInt(3);
    int second = chance(50) ? 1 : chance(50) ? 65 : random.nextInt(3);
    due("use", x.use(kind, caller, owner, word, n, first, second),
        plain.use(kind, caller, owner, word, n, first, second));
  }

  private int number(int limit) {
    return chance(2) ? random.nextInt(9) - 4 + limit : limit <= 0 ? 0 : random.nextInt(limit);
  }

  private void call() {
    int b = number(plain.told(1));
    int u = number(plain.told(2));
    int name = name();
    switch (random.nextInt(16)) {
      case 0:
        due("defined", x.defined(b, name), plain.defined(b, name));
        break;
      case 1:
        int what = random.nextInt(6) - 1;
        due("count", x.count(b, what), plain.count(b, what));
        break;
      case 2:
        int i = random.nextInt(19) - 1;
        due("name", x.name(b, i), plain.name(b, i));
        break;
      case 3:
        int other = name();
        due("is", x.is(b, name, other), plain.is(b, name, other));
        break;
      case 4:
        if (chance(20)) {
          use();
        }
        break;
      case 5:
        int told = random.nextInt(5) - 1;
        due("told", x.told(told), plain.told(told));
        break;
      case 6:
        due("share", Checks.share(x, b), plain.share(b));
        break;
      case 7:
        int two = number(plain.told(1));
        int nth = random.nextInt(12) - 1;
        due("changed", x.changed(b, two, nth), plain.changed(b, two, nth));
        break;
      case 8:
        due("compile", x.compile(b, u), plain.compile(b, u));
        break;
      case 9:
        due("copied", x.copied(u), plain.copied(u));
        break;
      case 10:
        due("stale", x.stale(b, u), plain.stale(b, u));
        break;
      case 11:
        due("member", x.member(b, u), plain.member(b, u));
        break;
      case 12:
        due("done", x.done(b, u, name), plain.done(b, u, name));
        break;
      case 13:
        due("doneMember", x.doneMember(b, u, name), plain.doneMember(b, u, name));
        break;
      default:
        due("link", x.link(b, u), plain.link(b, u));
        break;
    }
  }
}
