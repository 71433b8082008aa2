import java.util.ArrayList;
import java.util.LinkedHashMap;
import java.util.LinkedHashSet;
import java.util.List;
import java.util.Map;
import java.util.Set;
import java.util.regex.Matcher;
import java.util.regex.Pattern;

/** The document once more, as it reads: texts, lists and recursion, without regard to room or speed. */
final class PlainModel {
  private static final int NONE = -1, UNKNOWN = -2, OUTSIDE = -3, STATE = -4, FULL = -5;
  private static final Pattern TOKEN =
      Pattern.compile("[A-Z][A-Z0-9]*|[a-z]+|[0-9]+|[{}();,:=<]|[^ \n]");
  private static final Set<String> MARKS = Set.of("static", "hidden", "final", "abstract");
  private static final Set<String> NO_WORDS =
      Set.of("class", "static", "hidden", "final", "abstract", "int", "long", "void");

  private static final class Fault extends Exception {
    private static final long serialVersionUID = 1;
    final int answer;

    Fault(int fault, int place) {
      answer = -10000 - 1000 * fault - place;
    }
  }

  private static final class Error extends Exception {
    private static final long serialVersionUID = 1;
    final int number;

    Error(int number) {
      this.number = number;
    }
  }

  private static final class Member {
    Type home;
    int place;
    Set<String> marks = new LinkedHashSet<>();
    String word;
    List<String> types;
    Integer number;

    boolean method() {
      return types != null;
    }

    boolean body() {
      return method() && !marks.contains("abstract");
    }

    boolean open() {
      return !marks.contains("static") && !marks.contains("hidden");
    }
  }

  private static final class Type {
    String mark = "";
    String name;
    String above;
    List<String> faces = new ArrayList<>();
    List<Member> members = new ArrayList<>();
    int place;
  }

  private static final class Use {
    int kind;
    String caller;
    String owner;
    String word;
    List<String> types = new ArrayList<>();
    Integer copy;
  }

  private final StringBuilder tape = new StringBuilder();
  private final List<Map<String, Type>> builds = new ArrayList<>();
  private final List<Use> uses = new ArrayList<>();

  // ---- reading

  private final List<String> tokens = new ArrayList<>();
  private final List<Integer> places = new ArrayList<>();
  private int at;

  private String here() {
    return at < tokens.size() ? tokens.get(at) : "";
  }

  private void check(boolean good, int fault) throws Fault {
    if (!good) {
      throw new Fault(fault, places.get(at));
    }
  }

  private void pass(String token) throws Fault {
    check(here().equals(token), 1);
    at++;
  }

  private boolean isName() {
    return here().matches("[A-Z][A-Z0-9]{0,3}");
  }

  private boolean isType() {
    return isName() || here().matches("int|long|void");
  }

  private Map<String, Type> read(String text) throws Fault {
    tokens.clear();
    places.clear();
    at = 0;
    Matcher m = TOKEN.matcher(text);
    while (m.find()) {
      tokens.add(m.group());
      places.add(m.start());
    }
    places.add(text.length());
    Map<String, Type> all = new LinkedHashMap<>();
    while (at < tokens.size()) {
      check(here().matches("face|abstract|final|class"), 1);
      check(all.size() < 16, 2);
      Type t = new Type();
      if (!here().equals("class")) {
        t.mark = here();
        at++;
      }
      pass("class");
      check(isName(), 1);
      check(!all.containsKey(here()), 3);
      t.name = here();
      t.place = all.size();
      all.put(t.name, t);
      at++;
      readRest(t);
    }
    return all;
  }

  private void readRest(Type t) throws Fault {
    if (here().equals("<")) {
      at++;
      check(isName(), 1);
      t.above = here();
      at++;
    }
    if (here().equals(":")) {
      do {
        at++;
        check(isName(), 1);
        check(t.faces.size() < 3, 2);
        t.faces.add(here());
        at++;
      } while (here().equals(","));
    }
    pass("{");
    while (!here().equals("}")) {
      check(isType() || MARKS.contains(here()), 1);
      check(t.members.size() < 12, 2);
      Member m = readMember(t);
      m.home = t;
      m.place = t.members.size();
      t.members.add(m);
    }
    at++;
  }

  private Member readMember(Type t) throws Fault {
    Member m = new Member();
    while (MARKS.contains(here())) {
      check(!m.marks.contains(here()), 1);
      check(!m.marks.contains("abstract"), 1);
      check(!here().equals("abstract") || m.marks.isEmpty(), 1);
      m.marks.add(here());
      at++;
    }
    check(isType(), 1);
    String type = here();
    at++;
    check(here().matches("[a-z]{1,8}") && !NO_WORDS.contains(here()), 1);
    m.word = here();
    at++;
    check(here().matches("[;=(]"), 1);
    if (here().equals("(")) {
      check(!m.marks.contains("final"), 1);
      at++;
      readTypes(m);
      for (Member other : t.members) {
        check(!other.word.equals(m.word) || !m.types.equals(other.types), 3);
      }
      at++;
      pass(";");
      return m;
    }
    check(!type.equals("void") && !m.marks.contains("abstract"), 1);
    for (Member other : t.members) {
      check(!other.word.equals(m.word) || other.method(), 3);
    }
    if (here().equals("=")) {
      check(m.marks.contains("static") && m.marks.contains("final") && type.equals("int"), 4);
      at++;
      check(here().matches("[0-9]{1,6}"), 1);
      m.number = Integer.valueOf(here());
      at++;
    }
    pass(";");
    return m;
  }

  private void readTypes(Member m) throws Fault {
    m.types = new ArrayList<>();
    if (here().equals(")")) {
      return;
    }
    while (true) {
      check(isType() && !here().equals("void"), 1);
      check(m.types.size() < 2, 2);
      m.types.add(here());
      at++;
      if (here().equals(")")) {
        return;
      }
      pass(",");
    }
  }

  // ---- what is defined

  /** Gathers all names that one comes to from a class. */
  private static void gather(Map<String, Type> all, String from, Set<String> into) {
    Type t = all.get(from);
    if (t == null) {
      return;
    }
    List<String> next = new ArrayList<>(t.faces);
    if (t.above != null) {
      next.add(t.above);
    }
    for (String n : next) {
      if (into.add(n)) {
        gather(all, n, into);
      }
    }
  }

  private static Type define(Map<String, Type> all, String name) throws Error {
    Type t = all.get(name);
    if (t == null) {
      throw new Error(1);
    }
    Set<String> ways = new LinkedHashSet<>();
    gather(all, name, ways);
    if (ways.contains(name)) {
      throw new Error(3);
    }
    if (t.above != null) {
      Type above = other(all, t.above);
      if (above.mark.equals("face") || t.mark.equals("face")) {
        throw new Error(4);
      }
      if (above.mark.equals("final")) {
        throw new Error(5);
      }
    }
    for (String f : t.faces) {
      if (!other(all, f).mark.equals("face")) {
        throw new Error(4);
      }
    }
    return t;
  }

  private static Type other(Map<String, Type> all, String name) throws Error {
    try {
      return define(all, name);
    } catch (Error e) {
      throw new Error(2);
    }
  }

  private static boolean of(Map<String, Type> all, Type t, Type other) {
    if (t == other) {
      return true;
    }
    if (t.above != null && of(all, all.get(t.above), other)) {
      return true;
    }
    for (String f : t.faces) {
      if (of(all, all.get(f), other)) {
        return true;
      }
    }
    return false;
  }

  // ---- linking

  private static Member field(Map<String, Type> all, Type t, String word) {
    for (Member m : t.members) {
      if (!m.method() && m.word.equals(word)) {
        return m;
      }
    }
    for (String f : t.faces) {
      Member m = field(all, all.get(f), word);
      if (m != null) {
        return m;
      }
    }
    return t.above == null ? null : field(all, all.get(t.above), word);
  }

  private static Member method(Type t, Use u) {
    for (Member m : t.members) {
      if (m.method() && m.word.equals(u.word) && m.types.equals(u.types)) {
        return m;
      }
    }
    return null;
  }

  private static void faces(Map<String, Type> all, Type t, Set<Type> into) {
    for (String f : t.faces) {
      into.add(all.get(f));
      faces(all, all.get(f), into);
    }
  }

  private static List<Member> ofFaces(Map<String, Type> all, Type from, Use u) {
    Set<Type> faces = new LinkedHashSet<>();
    for (Type t = from; t != null; t = t.above == null ? null : all.get(t.above)) {
      faces(all, t, faces);
    }
    List<Member> having = new ArrayList<>();
    for (Type f : faces) {
      Member m = method(f, u);
      if (m != null && m.open()) {
        having.add(m);
      }
    }
    List<Member> left = new ArrayList<>();
    for (Member m : having) {
      boolean out = false;
      for (Member n : having) {
        out |= n != m && of(all, n.home, m.home);
      }
      if (!out) {
        left.add(m);
      }
    }
    return left;
  }

  private static List<Member> bodies(List<Member> members) {
    List<Member> with = new ArrayList<>(members);
    with.removeIf(m -> !m.body());
    return with;
  }

  /** The member; null for KINDS 8 and 9. */
  private static Member link(Map<String, Type> all, Use u) throws Error {
    Type caller = define(all, u.caller);
    if (!all.containsKey(u.owner)) {
      throw new Error(2);
    }
    Type owner = define(all, u.owner);
    if (u.kind == 8 && (owner.mark.equals("face") || owner.mark.equals("abstract"))) {
      throw new Error(6);
    }
    if (u.kind >= 8) {
      return null;
    }
    return u.kind < 4 ? linkField(all, u, caller, owner) : linkMethod(all, u, caller, owner);
  }

  private static Member linkField(Map<String, Type> all, Use u, Type caller, Type owner) throws Error {
    Member m = field(all, owner, u.word);
    if (m == null) {
      throw new Error(7);
    }
    if (m.marks.contains("hidden") && caller != m.home) {
      throw new Error(8);
    }
    if (m.marks.contains("static") ? u.kind < 2 : u.kind >= 2) {
      throw new Error(4);
    }
    if (u.kind % 2 == 1 && m.marks.contains("final") && caller != m.home) {
      throw new Error(8);
    }
    return m;
  }

  private static Member linkMethod(Map<String, Type> all, Use u, Type caller, Type owner) throws Error {
    boolean face = owner.mark.equals("face");
    if (face && u.kind == 4 || !face && u.kind == 7) {
      throw new Error(4);
    }
    Member found = null;
    for (Type t = owner; t != null && found == null; t = t.above == null ? null : all.get(t.above)) {
      found = method(t, u);
    }
    if (found == null) {
      List<Member> left = ofFaces(all, owner, u);
      if (left.isEmpty()) {
        throw new Error(9);
      }
      found = bodies(left).size() == 1 ? bodies(left).get(0) : left.get(0);
    }
    if (found.marks.contains("hidden") && caller != found.home) {
      throw new Error(8);
    }
    if (found.marks.contains("static") != (u.kind == 5)) {
      throw new Error(4);
    }
    if (u.kind == 6 && !found.body()) {
      throw new Error(10);
    }
    return found;
  }

  private static Member perform(Map<String, Type> all, Use u, String receiver) throws Error {
    Member linked = link(all, u);
    Type r = define(all, receiver);
    if (!of(all, r, all.get(u.owner))) {
      throw new Error(4);
    }
    if (linked.marks.contains("hidden")) {
      return linked;
    }
    for (Type t = r; t != null; t = t.above == null ? null : all.get(t.above)) {
      Member m = method(t, u);
      if (m != null && m.open()) {
        if (!m.body()) {
          throw new Error(10);
        }
        return m;
      }
    }
    List<Member> with = bodies(ofFaces(all, r, u));
    if (with.size() >= 2) {
      throw new Error(4);
    }
    if (with.isEmpty()) {
      throw new Error(10);
    }
    return with.get(0);
  }

  // ---- the face

  private static String text(long bytes) {
    StringBuilder s = new StringBuilder();
    for (int shift = 56; shift >= 0; shift -= 8) {
      char c = (char) (bytes >>> shift & 255);
      if (c != 0 || s.length() > 0) {
        s.append(c);
      }
    }
    return s.toString();
  }

  private static String nameText(int name) {
    return text(name & 0xffffffffL);
  }

  private Map<String, Type> buildAt(int i) {
    return i >= 0 && i < builds.size() ? builds.get(i) : null;
  }

  private Use useAt(int i) {
    return i >= 0 && i < uses.size() ? uses.get(i) : null;
  }

  int feed(long w, int n) {
    if (n < 1 || n > 8) {
      return OUTSIDE;
    }
    if (tape.length() + n > 800) {
      return FULL;
    }
    for (int i = n - 1; i >= 0; i--) {
      tape.append((char) (w >>> 8 * i & 255));
    }
    return tape.length();
  }

  int build() {
    String text = tape.toString();
    tape.setLength(0);
    if (builds.size() == 5) {
      return FULL;
    }
    try {
      builds.add(read(text));
      return builds.size() - 1;
    } catch (Fault f) {
      return f.answer;
    }
  }

  int defined(int build, int name) {
    if (buildAt(build) == null) {
      return UNKNOWN;
    }
    try {
      define(buildAt(build), nameText(name));
      return 1;
    } catch (Error e) {
      return -10 - e.number;
    }
  }

  int count(int build, int what) {
    if (buildAt(build) == null) {
      return UNKNOWN;
    }
    int[] counts = new int[4];
    for (Type t : buildAt(build).values()) {
      counts[0]++;
      for (Member m : t.members) {
        counts[m.method() ? 2 : 1]++;
        counts[3] += m.number != null ? 1 : 0;
      }
    }
    return what < 0 || what > 3 ? OUTSIDE : counts[what];
  }

  int name(int build, int i) {
    if (buildAt(build) == null) {
      return UNKNOWN;
    }
    for (Type t : buildAt(build).values()) {
      if (t.place == i) {
        return Checks.name(t.name);
      }
    }
    return NONE;
  }

  int is(int build, int name, int other) {
    if (buildAt(build) == null) {
      return UNKNOWN;
    }
    try {
      Type one = define(buildAt(build), nameText(name));
      return of(buildAt(build), one, define(buildAt(build), nameText(other))) ? 1 : 0;
    } catch (Error e) {
      return -10 - e.number;
    }
  }

  int use(int kind, int caller, int owner, long word, int n, int first, int second) {
    if (kind < 0 || kind > 9 || n < 0 || n > 2) {
      return OUTSIDE;
    }
    if (uses.size() == 40) {
      return FULL;
    }
    Use u = new Use();
    u.kind = kind;
    u.caller = nameText(caller);
    u.owner = nameText(owner);
    u.word = text(word);
    int[] types = {first, second};
    for (int i = 0; i < n; i++) {
      u.types.add(types[i] == 0 ? "int" : types[i] == 1 ? "long" : nameText(types[i]));
    }
    uses.add(u);
    return uses.size() - 1;
  }

  int link(int build, int use) {
    return linked(build, use, true);
  }

  int member(int build, int use) {
    return linked(build, use, false);
  }

  private int linked(int build, int use, boolean home) {
    if (buildAt(build) == null || useAt(use) == null) {
      return UNKNOWN;
    }
    try {
      Member m = link(buildAt(build), useAt(use));
      if (m == null) {
        return home ? buildAt(build).get(useAt(use).owner).place : NONE;
      }
      return home ? m.home.place : m.place;
    } catch (Error e) {
      return -10 - e.number;
    }
  }

  int done(int build, int use, int receiver) {
    return performed(build, use, receiver, true);
  }

  int doneMember(int build, int use, int receiver) {
    return performed(build, use, receiver, false);
  }

  private int performed(int build, int use, int receiver, boolean home) {
    if (buildAt(build) == null || useAt(use) == null) {
      return UNKNOWN;
    }
    if (useAt(use).kind != 4 && useAt(use).kind != 7) {
      return STATE;
    }
    try {
      Member m = perform(buildAt(build), useAt(use), nameText(receiver));
      return home ? m.home.place : m.place;
    } catch (Error e) {
      return -10 - e.number;
    }
  }

  int compile(int build, int use) {
    if (buildAt(build) == null || useAt(use) == null) {
      return UNKNOWN;
    }
    if (useAt(use).kind != 2) {
      return STATE;
    }
    try {
      useAt(use).copy = link(buildAt(build), useAt(use)).number;
      return useAt(use).copy == null ? 0 : 1;
    } catch (Error e) {
      return -10 - e.number;
    }
  }

  int copied(int use) {
    if (useAt(use) == null) {
      return UNKNOWN;
    }
    return useAt(use).copy == null ? NONE : useAt(use).copy;
  }

  int stale(int build, int use) {
    if (buildAt(build) == null || useAt(use) == null) {
      return UNKNOWN;
    }
    if (useAt(use).copy == null) {
      return STATE;
    }
    try {
      return useAt(use).copy.equals(link(buildAt(build), useAt(use)).number) ? 0 : 1;
    } catch (Error e) {
      return 1;
    }
  }

  private static String shown(Map<String, Type> all, Use u) {
    try {
      Member m = link(all, u);
      return m == null ? u.owner : m.home.name + " " + m.place;
    } catch (Error e) {
      return "error " + e.number;
    }
  }

  int changed(int build, int other, int i) {
    if (buildAt(build) == null || buildAt(other) == null) {
      return UNKNOWN;
    }
    List<Integer> apart = new ArrayList<>();
    for (int k = 0; k < uses.size(); k++) {
      if (!shown(buildAt(build), uses.get(k)).equals(shown(buildAt(other), uses.get(k)))) {
        apart.add(k);
      }
    }
    return i >= 0 && i < apart.size() ? apart.get(i) : NONE;
  }

  int told(int what) {
    return what == 0 ? tape.length() : what == 1 ? builds.size() : what == 2 ? uses.size() : OUTSIDE;
  }

  /** As Checks.share tells it. */
  int share(int build) {
    if (buildAt(build) == null) {
      return 1;
    }
    int good = 0;
    for (int k = 0; k < uses.size(); k++) {
      good += link(build, k) >= 0 ? 1 : 0;
    }
    return good == uses.size() ? 2 : 1000 + good / (uses.size() - good);
  }
}
