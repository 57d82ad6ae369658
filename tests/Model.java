import java.util.ArrayList;
import java.util.HashMap;
import java.util.HashSet;
import java.util.List;
import java.util.Map;
import java.util.Objects;
import java.util.Set;
import java.util.TreeMap;

/**
 * The document once more, as slowly and as near to its words as can be, for comparison in ModelTest.
 * It shares nothing with the program: the ring is walked place by place, BODIES are maps, a ROW is
 * read by descent.
 */
final class Model {
  static final int NONE = -1;
  static final int NEVER = -1000;

  static final class Origin {
    int weight;
    int offset;
    int delay = 1;
    int mood;
    int fails;
    int lastFail;
    int tries;
  }

  static final class Policy {
    int maxAge = NONE;
    int sharedAge = NONE;
    int expires = NONE;
    int flags;
    int staleWhile;
    int staleIf;

    Policy copy() {
      Policy p = new Policy();
      p.maxAge = maxAge;
      p.sharedAge = sharedAge;
      p.expires = expires;
      p.flags = flags;
      p.staleWhile = staleWhile;
      p.staleIf = staleIf;
      return p;
    }
  }

  static final class Doc {
    int path;
    int length;
    int sort;
    int vary;
    int version;
    int touch;
    int modified;

    Doc copy() {
      Doc d = new Doc();
      d.path = path;
      d.length = length;
      d.sort = sort;
      d.vary = vary;
      d.version = version;
      d.touch = touch;
      d.modified = modified;
      return d;
    }

    int variant(int lang, int coding) {
      int v = 0;
      if (vary % 2 == 1) {
        v += lang;
      }
      if (vary / 2 == 1) {
        v += 3 * coding;
      }
      return v;
    }

    int tag(int lang, int coding) {
      if (sort == 3) {
        return ((version * 1000 + touch) * 6 + variant(lang, coding)) * 2;
      }
      if (sort == 2) {
        return (version * 6000 + variant(lang, coding)) * 2 + 1;
      }
      return NONE;
    }

    int date() {
      return sort == 0 ? NEVER : modified;
    }

    String body(int lang, int coding) {
      StringBuilder b = new StringBuilder();
      for (int i = 0; i < length; i++) {
        b.append(signOf(i, path, version, variant(lang, coding), touch, length));
      }
      return b.toString();
    }
  }

  static char signOf(int i, int path, int version, int variant, int touch, int length) {
    String letters = "abcdefghijklmnopqrstuvwxyz";
    String sign = letters.substring((7 * i + 3 * version + 5 * path + 11 * variant) % 26).substring(0, 1);
    return (i < touch % (length + 1) ? sign.toUpperCase() : sign).charAt(0);
  }

  /** What was there at a PATH from a TICK on (null: nothing). */
  static final class Moment {
    int from;
    Doc doc;

    Moment(int from, Doc doc) {
      this.from = from;
      this.doc = doc;
    }
  }

  static final class Req {
    int method;
    int path;
    int lang;
    int coding;
    int size;
    int wantsAge = NONE;
    int letsStale = NONE;
    int wantsFresh = NONE;
    int wishes;
    int ifMatch = NONE;
    int ifNone = NONE;
    int ifSince = NEVER;
    int ifUnchanged = NEVER;
    int first = NONE;
    int last = NONE;
    int ifRange = NONE;

    Req(int method, int path, int lang, int coding, int size) {
      this.method = method;
      this.path = path;
      this.lang = lang;
      this.coding = coding;
      this.size = size;
    }

    Req copy() {
      Req r = new Req(method, path, lang, coding, size);
      r.wantsAge = wantsAge;
      r.letsStale = letsStale;
      r.wantsFresh = wantsFresh;
      r.wishes = wishes;
      r.ifMatch = ifMatch;
      r.ifNone = ifNone;
      r.ifSince = ifSince;
      r.ifUnchanged = ifUnchanged;
      r.first = first;
      r.last = last;
      r.ifRange = ifRange;
      return r;
    }

    boolean noCache() {
      return wishes % 2 == 1;
    }

    boolean noStore() {
      return wishes / 2 % 2 == 1;
    }

    boolean onlyKept() {
      return wishes / 4 % 2 == 1;
    }

    boolean hasRange() {
      return !(first == NONE && last == NONE);
    }

    boolean hasConditions() {
      return ifMatch != NONE || ifUnchanged != NEVER;
    }

    /** The places of a RANGE of so many SIGNS; none if it is EMPTY. */
    List<Integer> places(int total) {
      int from = first != NONE ? first : Math.max(total - last, 0);
      int to = first == NONE || last == NONE ? total - 1 : Math.min(last, total - 1);
      List<Integer> places = new ArrayList<>();
      if (total == 0 || from >= total) {
        return places;
      }
      for (int i = from; i <= to; i++) {
        places.add(i);
      }
      return places;
    }

    String text() {
      List<String> parts = new ArrayList<>();
      parts.add(List.of("GET", "HEAD", "PUT", "POST", "DELETE").get(method) + " /" + path);
      add(parts, "lang=", lang, 0);
      add(parts, "coding=", coding, 0);
      add(parts, "size=", size, 0);
      add(parts, "max-age=", wantsAge, NONE);
      add(parts, "max-stale=", letsStale, NONE);
      add(parts, "min-fresh=", wantsFresh, NONE);
      if (noCache()) {
        parts.add("no-cache");
      }
      if (noStore()) {
        parts.add("no-store");
      }
      if (onlyKept()) {
        parts.add("only-if-cached");
      }
      if (ifMatch != NONE) {
        parts.add("if-match=" + (ifMatch == -2 ? "*" : "" + ifMatch));
      }
      if (ifNone != NONE) {
        parts.add("if-none-match=" + (ifNone == -2 ? "*" : "" + ifNone));
      }
      add(parts, "if-modified-since=", ifSince, NEVER);
      add(parts, "if-unmodified-since=", ifUnchanged, NEVER);
      if (hasRange()) {
        parts.add("range=" + (first == NONE ? "" : "" + first) + "-" + (last == NONE ? "" : "" + last));
      }
      add(parts, "if-range=", ifRange, NONE);
      return String.join(", ", parts);
    }

    static void add(List<String> parts, String name, int x, int absent) {
      if (x != absent) {
        parts.add(name + x);
      }
    }
  }

  /** An answer with a BODY, or an ENTRY. */
  static final class Ent {
    int path;
    int vary;
    int lang;
    int coding;
    int date;
    int last;
    int tag;
    Policy policy;
    int total;
    TreeMap<Integer, Character> held = new TreeMap<>();
    int sent;
    int got;
    int made;
    int keptAs;

    Ent copy() {
      Ent e = new Ent();
      e.path = path;
      e.vary = vary;
      e.lang = lang;
      e.coding = coding;
      e.date = date;
      e.last = last;
      e.tag = tag;
      e.policy = policy.copy();
      e.total = total;
      e.held = new TreeMap<>(held);
      e.sent = sent;
      e.got = got;
      e.made = made;
      e.keptAs = keptAs;
      return e;
    }

    boolean fits(int p, int l, int c) {
      return path == p && (vary % 2 == 0 || lang == l) && (vary / 2 == 0 || coding == c);
    }

    boolean flag(int k) {
      return (policy.flags >> k & 1) == 1;
    }

    int age(int now) {
      int a = got - date < 0 ? 0 : got - date;
      int b = got - sent;
      return (a > b ? a : b) + (now - got);
    }

    int freshness() {
      if (policy.sharedAge != NONE) {
        return policy.sharedAge;
      }
      if (policy.maxAge != NONE) {
        return policy.maxAge;
      }
      if (policy.expires != NONE) {
        return policy.expires;
      }
      if (last == NEVER) {
        return 0;
      }
      int tenth = (int) Math.floor((date - last) / 10.0);
      return tenth < 0 ? 0 : tenth > 60 ? 60 : tenth;
    }

    boolean strict() {
      return flag(3) || policy.sharedAge != NONE;
    }

    boolean strong() {
      return tag != NONE && tag % 2 == 0;
    }

    int cost() {
      return 10 + held.size();
    }

    void take(Ent answer) {
      date = answer.date;
      last = answer.last;
      policy = answer.policy.copy();
      sent = answer.sent;
      got = answer.got;
      made = answer.made;
    }

    String body() {
      StringBuilder b = new StringBuilder();
      for (int i = 0; i < total; i++) {
        b.append(held.containsKey(i) ? held.get(i) : Character.valueOf('.'));
      }
      return b.toString();
    }
  }

  /** A REQUEST that was SENT, with what it was TOLD. */
  static final class Sent {
    int id;
    Req req;
    int at;
    Fetch waitsFor;
    boolean told;
    int status;
    int how;
    int age;
    int freshness;
    int date = NEVER;
    int last = NEVER;
    int tag = NONE;
    int total = NONE;
    int firstPlace = NONE;
    int lastPlace = NONE;
    int made = NONE;
    int toldAt;
    int origin = NONE;
    String body = "";
  }

  static final class Fetch {
    int number;
    int kind;
    Req ask;
    Sent owner;
    Ent base;
    List<Integer> tried = new ArrayList<>();
    int sentAt = NONE;
    int arrivesAt = NONE;
    int comesAt = NONE;
    int status;
    Ent answer;
    int ended;
  }

  int now;
  final List<Origin> origins = new ArrayList<>();
  final Doc[] docs = new Doc[12];
  final int[] versions = new int[12];
  final Policy[] policies = new Policy[12];
  final List<List<Moment>> history = new ArrayList<>();
  Req draft = new Req(0, 0, 0, 0, 0);
  final List<Sent> sents = new ArrayList<>();
  final List<Fetch> fetches = new ArrayList<>();
  /** The one that was USED longest ago first. */
  List<Ent> store = new ArrayList<>();
  int room = 300;
  int keepings;
  int crowded;
  int signs;
  int lastTag;
  int blanks;
  int knocks;
  int refusals;
  final List<Integer> row = new ArrayList<>();

  Model() {
    for (int o = 0; o < 5; o++) {
      Origin origin = new Origin();
      origin.weight = o <= 2 ? 2 : 0;
      origins.add(origin);
    }
    for (int p = 0; p < 12; p++) {
      policies[p] = new Policy();
      history.add(new ArrayList<>());
    }
  }

  // ---- tests of arguments

  static void index(boolean is) {
    if (!is) {
      throw new IndexOutOfBoundsException("model");
    }
  }

  static void argument(boolean is) {
    if (!is) {
      throw new IllegalArgumentException("model");
    }
  }

  static boolean in(int x, int a, int b) {
    return a <= x && x <= b;
  }

  int refused() {
    refusals++;
    return -9;
  }

  // ---- time, origins, the ring

  int goBy(int many) {
    argument(in(many, 1, 60));
    for (int i = 0; i < many; i++) {
      tick();
    }
    return now;
  }

  int settle(int most) {
    argument(in(most, 1, 120));
    int i = 0;
    while (i < most && !waiting().isEmpty()) {
      tick();
      i++;
    }
    return i;
  }

  int weigh(int origin, int weight) {
    index(in(origin, 0, 4));
    argument(in(weight, 0, 4));
    int old = origins.get(origin).weight;
    origins.get(origin).weight = weight;
    return old;
  }

  int offset(int origin, int offset) {
    index(in(origin, 0, 4));
    argument(in(offset, -50, 50));
    int old = origins.get(origin).offset;
    origins.get(origin).offset = offset;
    return old;
  }

  int delay(int origin, int delay) {
    index(in(origin, 0, 4));
    argument(in(delay, 1, 5));
    int old = origins.get(origin).delay;
    origins.get(origin).delay = delay;
    return old;
  }

  int mood(int origin, int mood) {
    index(in(origin, 0, 4));
    argument(in(mood, 0, 2));
    int old = origins.get(origin).mood;
    origins.get(origin).mood = mood;
    return old;
  }

  boolean out(int o) {
    return origins.get(o).fails >= 3 && now - origins.get(o).lastFail < 30;
  }

  int ofOrigin(int origin, int what) {
    index(in(origin, 0, 4));
    argument(in(what, 0, 8));
    Origin o = origins.get(origin);
    if (what == 7) {
      int n = 0;
      for (int p = 0; p < 12; p++) {
        List<Integer> ring = ring(p, weights());
        n += !ring.isEmpty() && ring.get(0) == origin ? 1 : 0;
      }
      return n;
    }
    return new int[] {o.weight, o.offset, o.delay, o.mood, o.fails, out(origin) ? 1 : 0, o.tries, 0, now + o.offset}[what];
  }

  static int h(int x) {
    long a = (x * 25173L + 13849L) % 65536L;
    return (int) (((a + a / 128) * 9001L + 7) % 65536L);
  }

  int hash(int x) {
    argument(in(x, 0, 9999));
    return h(x);
  }

  int[] weights() {
    int[] w = new int[5];
    for (int o = 0; o < 5; o++) {
      w[o] = origins.get(o).weight;
    }
    return w;
  }

  static final Map<String, List<Integer>> RINGS = new HashMap<>();

  /** Goes from the KEY upward, place by place. */
  static List<Integer> ring(int path, int[] weights) {
    return RINGS.computeIfAbsent(path + java.util.Arrays.toString(weights), key -> walk(path, weights));
  }

  static List<Integer> walk(int path, int[] weights) {
    Map<Integer, Set<Integer>> standing = new HashMap<>();
    for (int o = 0; o < 5; o++) {
      for (int k = 0; k <= 4 * weights[o] - 1; k++) {
        standing.computeIfAbsent(h(100 * o + k), key -> new java.util.TreeSet<>()).add(o);
      }
    }
    List<Integer> met = new ArrayList<>();
    for (int step = 0; step < 65536; step++) {
      for (int o : standing.getOrDefault((h(5000 + 37 * path) + step) % 65536, Set.of())) {
        if (!met.contains(o)) {
          met.add(o);
        }
      }
    }
    return met;
  }

  List<Integer> order(int path) {
    List<Integer> in = new ArrayList<>();
    List<Integer> behind = new ArrayList<>();
    for (int o : ring(path, weights())) {
      (out(o) ? behind : in).add(o);
    }
    in.addAll(behind);
    return in;
  }

  static String spaced(List<Integer> numbers) {
    StringBuilder b = new StringBuilder();
    for (int n : numbers) {
      b.append(b.length() == 0 ? "" : " ").append(n);
    }
    return b.toString();
  }

  String order(int path, boolean isRing) {
    index(in(path, 0, 11));
    return spaced(isRing ? ring(path, weights()) : order(path));
  }

  int ifWeighed(int origin, int weight, int path) {
    index(in(origin, 0, 4) && in(path, 0, 11));
    argument(in(weight, 0, 4));
    int[] w = weights();
    w[origin] = weight;
    List<Integer> ring = ring(path, w);
    return ring.isEmpty() ? NONE : ring.get(0);
  }

  // ---- documents

  void happened(int path) {
    history.get(path).add(new Moment(now, docs[path] == null ? null : docs[path].copy()));
  }

  void great(int path, int length, int sort, int vary) {
    versions[path]++;
    Doc d = new Doc();
    d.path = path;
    d.length = length;
    d.sort = sort;
    d.vary = vary;
    d.version = versions[path];
    d.touch = 0;
    d.modified = now;
    docs[path] = d;
    happened(path);
  }

  void small(int path) {
    docs[path].touch++;
    docs[path].modified = now;
    happened(path);
  }

  int write(int path, int length, int sort, int vary) {
    index(in(path, 0, 11));
    argument(in(length, 0, 40) && in(sort, 0, 3) && in(vary, 0, 3));
    great(path, length, sort, vary);
    return versions[path];
  }

  int touch(int path) {
    index(in(path, 0, 11));
    if (docs[path] == null) {
      return refused();
    }
    small(path);
    return docs[path].touch;
  }

  int remove(int path) {
    index(in(path, 0, 11));
    if (docs[path] == null) {
      return refused();
    }
    docs[path] = null;
    happened(path);
    return versions[path];
  }

  int policy(int path, int maxAge, int sharedAge, int expires, int flags) {
    index(in(path, 0, 11));
    argument(in(maxAge, -1, 600) && in(sharedAge, -1, 600) && in(expires, -1, 600) && in(flags, 0, 15));
    Policy p = policies[path];
    int old = p.flags;
    p.maxAge = maxAge;
    p.sharedAge = sharedAge;
    p.expires = expires;
    p.flags = flags;
    return old;
  }

  int stale(int path, int staleWhile, int staleIf) {
    index(in(path, 0, 11));
    argument(in(staleWhile, 0, 60) && in(staleIf, 0, 60));
    int old = policies[path].staleWhile;
    policies[path].staleWhile = staleWhile;
    policies[path].staleIf = staleIf;
    return old;
  }

  int ofPath(int path, int what) {
    index(in(path, 0, 11));
    argument(in(what, 0, 11));
    Doc d = docs[path];
    Policy p = policies[path];
    if (what >= 6) {
      return new int[] {p.maxAge, p.sharedAge, p.expires, p.flags, p.staleWhile, p.staleIf}[what - 6];
    }
    return d == null ? NONE : new int[] {d.length, d.sort, d.vary, d.version, d.touch, d.modified}[what];
  }

  static void variantArgs(int lang, int coding) {
    argument(in(lang, 0, 2) && in(coding, 0, 1));
  }

  String body(int path, int lang, int coding) {
    index(in(path, 0, 11));
    variantArgs(lang, coding);
    return docs[path] == null ? "-" : docs[path].body(lang, coding);
  }

  int tag(int path, int lang, int coding) {
    index(in(path, 0, 11));
    variantArgs(lang, coding);
    return docs[path] == null ? NONE : docs[path].tag(lang, coding);
  }

  String policyText(int path) {
    index(in(path, 0, 11));
    Policy p = policies[path];
    List<String> parts = new ArrayList<>();
    Req.add(parts, "max-age=", p.maxAge, NONE);
    Req.add(parts, "s-maxage=", p.sharedAge, NONE);
    Req.add(parts, "expires=", p.expires, NONE);
    String[] names = {"no-store", "no-cache", "private", "must-revalidate"};
    for (int k = 0; k < 4; k++) {
      if ((p.flags >> k & 1) == 1) {
        parts.add(names[k]);
      }
    }
    Req.add(parts, "stale-while=", p.staleWhile, 0);
    Req.add(parts, "stale-if=", p.staleIf, 0);
    return String.join(", ", parts);
  }

  // ---- requests

  int draft(int method, int path, int lang, int coding, int size) {
    argument(in(method, 0, 4) && in(path, 0, 11) && in(lang, 0, 2) && in(coding, 0, 1) && in(size, 0, 40));
    draft = new Req(method, path, lang, coding, size);
    return sents.size();
  }

  int wish(int wantsAge, int letsStale, int wantsFresh, int wishes) {
    argument(in(wantsAge, -1, 600) && in(letsStale, -1, 600) && in(wantsFresh, -1, 600) && in(wishes, 0, 7));
    draft.wantsAge = wantsAge;
    draft.letsStale = letsStale;
    draft.wantsFresh = wantsFresh;
    draft.wishes = wishes;
    int n = wishes % 2 + wishes / 2 % 2 + wishes / 4;
    for (int x : new int[] {wantsAge, letsStale, wantsFresh}) {
      n += x == NONE ? 0 : 1;
    }
    return n;
  }

  int match(int ifMatch, int ifNone) {
    argument(ifMatch >= -2 && ifNone >= -2);
    draft.ifMatch = ifMatch;
    draft.ifNone = ifNone;
    return (ifMatch == NONE ? 0 : 1) + (ifNone == NONE ? 0 : 1);
  }

  int since(int ifSince, int ifUnchanged) {
    argument(ifSince >= NEVER && ifUnchanged >= NEVER);
    draft.ifSince = ifSince;
    draft.ifUnchanged = ifUnchanged;
    return (ifSince == NEVER ? 0 : 1) + (ifUnchanged == NEVER ? 0 : 1);
  }

  int range(int first, int last, int ifRange) {
    boolean none = first == NONE && last == NONE;
    boolean two = first >= 0 && last >= first;
    boolean toEnd = first >= 0 && last == NONE;
    boolean ofEnd = first == NONE && last >= 1;
    argument((none || two || toEnd || ofEnd) && ifRange >= NONE);
    draft.first = first;
    draft.last = last;
    draft.ifRange = ifRange;
    return none ? 0 : two ? 1 : toEnd ? 2 : 3;
  }

  String draftText() {
    return draft.text();
  }

  int send() {
    return submit(draft.copy());
  }

  int submit(Req r) {
    if (sents.size() == 60) {
      return refused();
    }
    Sent s = new Sent();
    s.id = sents.size();
    s.req = r;
    s.at = now;
    sents.add(s);
    comes(s);
    return s.id;
  }

  Sent sent(int id) {
    index(in(id, 0, sents.size() - 1));
    return sents.get(id);
  }

  int again(int id) {
    draft = sent(id).req.copy();
    return draft.method;
  }

  int get(int path, int lang, int coding) {
    argument(in(path, 0, 11) && in(lang, 0, 2) && in(coding, 0, 1));
    return submit(new Req(0, path, lang, coding, 0));
  }

  String requestText(int id) {
    return sent(id).req.text();
  }

  // ---- what is told

  boolean isTold(int id) {
    return sent(id).told;
  }

  int ofAnswer(int id, int what) {
    Sent s = sent(id);
    argument(in(what, 0, 13));
    if (what == 12) {
      return s.at;
    }
    if (!s.told) {
      return NONE;
    }
    return new int[] {s.status, s.how, s.age, s.freshness, s.date, s.last, s.tag, s.total, s.firstPlace, s.lastPlace,
        s.made, s.toldAt, 0, s.origin}[what];
  }

  String answerBody(int id) {
    Sent s = sent(id);
    return s.told ? s.body : "";
  }

  String answerText(int id) {
    Sent s = sent(id);
    if (!s.told) {
      return "waits";
    }
    String text = s.status + " " + new String[] {"hit", "fetched", "validated", "let stale", "stale while", "stale if",
        "passed", "not kept", "fault"}[s.how];
    if (s.total != NONE) {
      text += ", age=" + s.age;
      text += s.tag == NONE ? "" : ", tag=" + s.tag;
      text += s.status == 206 ? ", range=" + s.firstPlace + "-" + s.lastPlace + "/" + s.total : "";
    }
    return text;
  }

  boolean isTrue(int id) {
    Sent s = sent(id);
    if (!s.told || s.req.method != 0 || s.status != 200 && s.status != 206) {
      return true;
    }
    if (s.how == 0 && s.age >= s.freshness) {
      return false;
    }
    List<Moment> moments = history.get(s.req.path);
    for (int i = 0; i < moments.size(); i++) {
      int from = moments.get(i).from;
      int to = i + 1 < moments.size() ? moments.get(i + 1).from : 1000000;
      for (int t = s.toldAt - s.age; t <= s.toldAt; t++) {
        if (t >= from && t <= to && moments.get(i).doc != null && says(moments.get(i).doc, s)) {
          return true;
        }
      }
    }
    return false;
  }

  static boolean says(Doc d, Sent s) {
    String body = d.body(s.req.lang, s.req.coding);
    if (s.status == 206) {
      if (d.length != s.total) {
        return false;
      }
      body = body.substring(s.firstPlace, s.lastPlace + 1);
    }
    boolean weak = s.tag != NONE && s.tag % 2 == 1;
    return weak ? body.equalsIgnoreCase(s.body) : body.equals(s.body);
  }

  String waiting() {
    List<Integer> ids = new ArrayList<>();
    for (Sent s : sents) {
      if (!s.told) {
        ids.add(s.id);
      }
    }
    return spaced(ids);
  }

  // ---- the store

  int costOfAll() {
    int c = 0;
    for (Ent e : store) {
      c += e.cost();
    }
    return c;
  }

  int makeRoom(int needed) {
    int n = 0;
    while (!store.isEmpty() && costOfAll() + needed > room) {
      store.remove(0);
      n++;
    }
    crowded += n;
    return n;
  }

  int room(int r) {
    argument(in(r, 0, 600));
    room = r;
    return makeRoom(0);
  }

  int entries() {
    return store.size();
  }

  int ofEntry(int k, int what) {
    index(in(k, 0, store.size() - 1));
    argument(in(what, 0, 15));
    Ent e = store.get(k);
    return new int[] {e.path, e.vary, e.lang, e.coding, e.age(now), e.freshness(), e.date, e.last, e.tag, e.total,
        e.held.size(), e.sent, e.got, e.made, e.cost(), e.age(now) < e.freshness() ? 1 : 0}[what];
  }

  String entryBody(int k) {
    index(in(k, 0, store.size() - 1));
    return store.get(k).body();
  }

  Ent select(int path, int lang, int coding) {
    Ent best = null;
    for (Ent e : store) {
      if (e.fits(path, lang, coding)) {
        if (best == null || e.got > best.got || e.got == best.got && e.keptAs > best.keptAs) {
          best = e;
        }
      }
    }
    return best;
  }

  int selected(int path, int lang, int coding) {
    index(in(path, 0, 11));
    variantArgs(lang, coding);
    return store.indexOf(select(path, lang, coding));
  }

  void keep(Ent e) {
    store.removeIf(x -> x.path == e.path && x.vary == e.vary && x.lang == e.lang && x.coding == e.coding);
    if (e.cost() > room) {
      return;
    }
    makeRoom(e.cost());
    keepings++;
    e.keptAs = keepings;
    store.add(e);
  }

  void forgetFitting(Req r) {
    store.removeIf(x -> x.fits(r.path, r.lang, r.coding));
  }

  int wouldBe() {
    if (isPass(draft)) {
      return 6;
    }
    Ent e = select(draft.path, draft.lang, draft.coding);
    int how = ready(draft, e);
    if (how >= 0) {
      return how;
    }
    if (draft.onlyKept()) {
      return 7;
    }
    return joinable(draft) == null ? 1 : 2;
  }

  int purge(int path) {
    index(in(path, 0, 11));
    int before = store.size();
    store.removeIf(x -> x.path == path);
    return before - store.size();
  }

  int flush() {
    int n = store.size();
    store = new ArrayList<>();
    return n;
  }

  int warm(int path, int lang, int coding) {
    index(in(path, 0, 11));
    variantArgs(lang, coding);
    Req r = new Req(0, path, lang, coding, 0);
    if (joinable(r) != null) {
      return refused();
    }
    Ent e = select(path, lang, coding);
    Fetch f = e == null ? begin(0, r, null, null) : begin(1, validating(r, e), null, e);
    next(f);
    return f.number;
  }

  // ---- what the front does

  static boolean isPass(Req r) {
    return r.method >= 2 || r.hasConditions() || r.noStore();
  }

  static Set<Integer> wanted(Req r, int total) {
    Set<Integer> places = new HashSet<>();
    if (r.method == 0 && r.hasRange() && r.ifRange == NONE) {
      places.addAll(r.places(total));
    } else {
      for (int i = 0; i < total; i++) {
        places.add(i);
      }
    }
    return places;
  }

  static boolean hasWanted(Req r, Ent e) {
    return e.held.keySet().containsAll(wanted(r, e.total));
  }

  int ready(Req r, Ent e) {
    if (e == null || !hasWanted(r, e) || r.noCache() || e.flag(1)) {
      return NONE;
    }
    int age = e.age(now);
    if (r.wantsAge != NONE && age > r.wantsAge) {
      return NONE;
    }
    int fresh = e.freshness();
    if (age < fresh) {
      return r.wantsFresh != NONE && fresh - age < r.wantsFresh ? NONE : 0;
    }
    if (e.strict() || r.wantsFresh != NONE) {
      return NONE;
    }
    if (r.letsStale != NONE && age - fresh <= r.letsStale) {
      return 3;
    }
    return age - fresh < e.policy.staleWhile ? 4 : NONE;
  }

  Fetch joinable(Req r) {
    for (Fetch f : fetches) {
      if (f.ended == 0 && f.kind <= 1 && f.ask.path == r.path && f.ask.lang == r.lang && f.ask.coding == r.coding) {
        return f;
      }
    }
    return null;
  }

  static Req validating(Req r, Ent e) {
    Req v = new Req(0, r.path, r.lang, r.coding, 0);
    if (e.tag != NONE) {
      v.ifNone = e.tag;
    } else if (e.last != NEVER && !(e.last >= e.sent)) {
      v.ifSince = e.last;
    }
    return v;
  }

  Fetch begin(int kind, Req ask, Sent owner, Ent base) {
    Fetch f = new Fetch();
    f.number = fetches.size();
    f.kind = kind;
    f.ask = ask;
    f.owner = owner;
    f.base = base == null ? null : base.copy();
    fetches.add(f);
    return f;
  }

  void comes(Sent s) {
    Req r = s.req;
    s.waitsFor = null;
    if (isPass(r)) {
      boolean withConditions = r.method >= 2 || r.hasConditions();
      Req ask = withConditions ? r.copy() : new Req(0, r.path, r.lang, r.coding, 0);
      launch(begin(3, ask, s, null));
      return;
    }
    Ent e = select(r.path, r.lang, r.coding);
    int how = ready(r, e);
    if (how >= 0) {
      use(e);
      tellFrom(s, e, how, NONE);
      if (how == 4 && joinable(r) == null) {
        launch(begin(1, validating(r, e), null, e));
      }
      return;
    }
    if (r.onlyKept()) {
      tellPlain(s, 504, 7, NONE);
      return;
    }
    if (joinable(r) != null) {
      s.waitsFor = joinable(r);
      return;
    }
    launch(own(s, r, e));
  }

  Fetch own(Sent s, Req r, Ent e) {
    if (e != null && hasWanted(r, e)) {
      return begin(1, validating(r, e), s, e);
    }
    Req plain = new Req(0, r.path, r.lang, r.coding, 0);
    if (e != null && e.strong() && e.age(now) < e.freshness() && !e.flag(1) && !r.noCache()) {
      List<Integer> missing = new ArrayList<>();
      for (int i = 0; i < e.total; i++) {
        if (wanted(r, e.total).contains(i) && !e.held.containsKey(i)) {
          missing.add(i);
        }
      }
      int many = missing.size();
      if (many > 0 && missing.get(many - 1) - missing.get(0) == many - 1) {
        plain.first = missing.get(0);
        plain.last = missing.get(many - 1);
        plain.ifRange = e.tag;
        return begin(2, plain, s, e);
      }
    }
    if (r.method == 0 && r.hasRange() && r.ifRange == NONE) {
      plain.first = r.first;
      plain.last = r.last;
      return begin(2, plain, s, null);
    }
    return begin(0, plain, s, null);
  }

  void launch(Fetch f) {
    next(f);
    if (f.ended != 0) {
      end(f);
    }
  }

  /** The next TRY, or the end. */
  void next(Fetch f) {
    boolean may = f.tried.isEmpty() || f.tried.size() < 3 && f.ask.method <= 1;
    if (may) {
      for (int o : order(f.ask.path)) {
        if (!f.tried.contains(o)) {
          f.tried.add(o);
          origins.get(o).tries++;
          f.sentAt = now;
          f.arrivesAt = now + origins.get(o).delay;
          f.comesAt = now + 2 * origins.get(o).delay;
          f.status = 0;
          f.answer = null;
          return;
        }
      }
    }
    f.ended = f.tried.isEmpty() ? 503 : f.status == 500 ? 502 : 504;
  }

  void tick() {
    now++;
    List<Fetch> known = new ArrayList<>(fetches);
    for (Fetch f : known) {
      if (f.ended == 0 && f.arrivesAt == now) {
        arrives(f);
      }
    }
    for (Fetch f : known) {
      if (f.ended == 0 && f.comesAt == now && f.sentAt < now) {
        Origin o = origins.get(f.tried.get(f.tried.size() - 1));
        if (f.status == 0 || f.status == 500) {
          o.fails++;
          o.lastFail = now;
          next(f);
        } else {
          o.fails = 0;
          f.ended = f.status;
          if (f.answer != null) {
            f.answer.sent = f.sentAt;
            f.answer.got = now;
          }
        }
        if (f.ended != 0) {
          end(f);
        }
      }
    }
  }

  void arrives(Fetch f) {
    Origin o = origins.get(f.tried.get(f.tried.size() - 1));
    if (o.mood == 2) {
      f.comesAt = f.sentAt + 12;
    } else if (o.mood == 1) {
      f.status = 500;
    } else {
      f.status = house(f, o);
    }
  }

  int house(Fetch f, Origin o) {
    Req r = f.ask;
    Doc d = docs[r.path];
    if (d == null) {
      if (r.method != 2) {
        return 404;
      }
      if (r.ifMatch != NONE) {
        return 412;
      }
      great(r.path, r.size, 3, 0);
      return 201;
    }
    int tag = d.tag(r.lang, r.coding);
    if (r.ifMatch != NONE) {
      boolean holds = r.ifMatch == -2 || tag != NONE && tag % 2 == 0 && tag == r.ifMatch;
      if (!holds) {
        return 412;
      }
    } else if (r.ifUnchanged != NEVER) {
      if (d.date() == NEVER || d.date() > r.ifUnchanged) {
        return 412;
      }
    }
    boolean reads = r.method <= 1;
    if (r.ifNone != NONE) {
      if (r.ifNone == -2 || tag != NONE && tag == r.ifNone) {
        if (reads) {
          f.answer = answer(f, d, o, List.of());
          return 304;
        }
        return 412;
      }
    } else if (r.ifSince != NEVER && reads) {
      if (d.date() != NEVER && d.date() <= r.ifSince) {
        f.answer = answer(f, d, o, List.of());
        return 304;
      }
    }
    switch (r.method) {
      case 0:
      case 1:
        if (r.method == 0 && r.hasRange() && (r.ifRange == NONE || tag != NONE && tag % 2 == 0 && tag == r.ifRange)) {
          List<Integer> places = r.places(d.length);
          if (places.isEmpty()) {
            return 416;
          }
          f.answer = answer(f, d, o, places);
          return 206;
        }
        List<Integer> all = new ArrayList<>();
        for (int i = 0; i < d.length; i++) {
          all.add(i);
        }
        f.answer = answer(f, d, o, all);
        return 200;
      case 2:
        great(r.path, r.size, d.sort, d.vary);
        return 204;
      case 3:
        small(r.path);
        return 204;
      default:
        docs[r.path] = null;
        happened(r.path);
        return 204;
    }
  }

  Ent answer(Fetch f, Doc d, Origin o, List<Integer> places) {
    Ent e = new Ent();
    e.path = f.ask.path;
    e.vary = d.vary;
    e.lang = d.vary % 2 == 1 ? f.ask.lang : 0;
    e.coding = d.vary / 2 == 1 ? f.ask.coding : 0;
    e.date = now + o.offset;
    e.last = d.date();
    e.tag = d.tag(f.ask.lang, f.ask.coding);
    e.policy = policies[e.path].copy();
    e.total = d.length;
    e.made = now;
    String body = d.body(f.ask.lang, f.ask.coding);
    for (int i : places) {
      e.held.put(i, body.charAt(i));
    }
    return e;
  }

  void end(Fetch f) {
    int origin = f.tried.isEmpty() ? NONE : f.tried.get(f.tried.size() - 1);
    List<Sent> waiters = new ArrayList<>();
    for (Sent s : sents) {
      if (s.waitsFor == f) {
        waiters.add(s);
      }
    }
    if (f.ended >= 502) {
      if (f.owner != null) {
        faulted(f.owner, f);
      }
      for (Sent s : waiters) {
        faulted(s, f);
      }
      return;
    }
    if (f.kind == 3) {
      endPass(f, origin);
      return;
    }
    Ent told = null;
    if (f.ended == 200) {
      told = f.answer;
      keepOrForget(told, f.ask);
    } else if (f.ended == 304) {
      told = f.base.copy();
      told.take(f.answer);
      keepOrForget(told, f.ask);
    } else if (f.ended == 206) {
      told = part(f);
    } else if (f.ended == 404) {
      forgetFitting(f.ask);
    }
    if (f.owner != null) {
      if (told == null) {
        tellPlain(f.owner, f.ended, 1, origin);
      } else {
        tellFrom(f.owner, told, f.ended == 304 ? 2 : 1, origin);
      }
    }
    for (Sent s : waiters) {
      comes(s);
    }
  }

  void keepOrForget(Ent e, Req ask) {
    if (e.flag(0) || e.flag(2)) {
      forgetFitting(ask);
    } else {
      keep(e);
    }
  }

  Ent part(Fetch f) {
    Ent come = f.answer;
    boolean keepable = come.strong() && !come.flag(0) && !come.flag(2);
    if (f.ask.ifRange != NONE && f.base != null) {
      come = join(come, f.base);
    }
    if (keepable) {
      Ent there = select(f.ask.path, f.ask.lang, f.ask.coding);
      if (there != null && there.strong() && there.tag == come.tag && there.total == come.total) {
        come = join(come, there);
      }
      keep(come);
    }
    return come;
  }

  static Ent join(Ent part, Ent with) {
    Ent e = part.copy();
    for (Map.Entry<Integer, Character> sign : with.held.entrySet()) {
      e.held.putIfAbsent(sign.getKey(), sign.getValue());
    }
    return e;
  }

  void faulted(Sent s, Fetch f) {
    Req r = s.req;
    Ent e = f.kind == 3 ? null : select(r.path, r.lang, r.coding);
    boolean helps = e != null && hasWanted(r, e) && !e.strict() && !e.flag(1) && !r.noCache()
        && (e.age(now) < e.freshness() || e.age(now) - e.freshness() < e.policy.staleIf)
        && r.wantsAge == NONE && r.wantsFresh == NONE;
    if (helps) {
      use(e);
      tellFrom(s, e, 5, NONE);
    } else {
      tellPlain(s, f.ended, 8, NONE);
    }
  }

  void endPass(Fetch f, int origin) {
    Sent s = f.owner;
    Req r = s.req;
    boolean asked = r.method >= 2 || r.hasConditions();
    if (f.answer == null) {
      tellPlain(s, f.ended, 6, origin);
    } else if (asked) {
      tellAs(s, f.answer, f.ended, 6, origin);
    } else {
      tellFrom(s, f.answer, 6, origin);
    }
    if (r.method >= 2 && f.ended >= 200 && f.ended <= 299) {
      purge(r.path);
    }
  }

  void use(Ent e) {
    store.remove(e);
    store.add(e);
  }

  void tellPlain(Sent s, int status, int how, int origin) {
    s.told = true;
    s.waitsFor = null;
    s.status = status;
    s.how = how;
    s.toldAt = now;
    s.origin = origin;
  }

  void tellFrom(Sent s, Ent e, int how, int origin) {
    Req r = s.req;
    int status = 200;
    if (r.ifNone != NONE && (r.ifNone == -2 || e.tag != NONE && r.ifNone == e.tag)) {
      status = 304;
    } else if (r.ifNone == NONE && r.ifSince != NEVER && e.last != NEVER && e.last <= r.ifSince) {
      status = 304;
    } else if (r.method == 0 && r.hasRange() && (r.ifRange == NONE || e.strong() && e.tag == r.ifRange)) {
      status = r.places(e.total).isEmpty() ? 416 : 206;
    }
    tellAs(s, e, status, how, origin);
  }

  void tellAs(Sent s, Ent e, int status, int how, int origin) {
    tellPlain(s, status, how, origin);
    s.age = e.age(now);
    s.freshness = e.freshness();
    s.date = e.date;
    s.last = e.last;
    s.tag = e.tag;
    s.total = e.total;
    s.made = e.made;
    if (e.tag != NONE) {
      lastTag = e.tag;
    }
    if (status == 206) {
      List<Integer> places = s.req.places(e.total);
      s.firstPlace = places.get(0);
      s.lastPlace = places.get(places.size() - 1);
    }
    if (s.req.method == 0 && status == 200) {
      s.body = e.body();
    } else if (s.req.method == 0 && status == 206) {
      s.body = e.body().substring(s.firstPlace, s.lastPlace + 1);
    }
    signs += s.body.length();
  }

  // ---- fetches

  String underWay() {
    List<Integer> numbers = new ArrayList<>();
    for (Fetch f : fetches) {
      if (f.ended == 0) {
        numbers.add(f.number);
      }
    }
    return spaced(numbers);
  }

  int ofFetch(int fetch, int what) {
    index(in(fetch, 0, fetches.size() - 1));
    argument(in(what, 0, 10));
    Fetch f = fetches.get(fetch);
    int waits = 0;
    for (Sent s : sents) {
      waits += !s.told && s.waitsFor == f ? 1 : 0;
    }
    int last = f.tried.isEmpty() ? NONE : f.tried.get(f.tried.size() - 1);
    return new int[] {f.kind, f.ask.path, f.ask.lang, f.ask.coding, f.tried.size(), last, f.sentAt,
        f.owner == null ? NONE : f.owner.id, waits, f.ended == 0 ? 1 : 0, f.ended}[what];
  }

  String fetchText(int fetch) {
    index(in(fetch, 0, fetches.size() - 1));
    return fetches.get(fetch).ask.text();
  }

  // ---- texts

  static final String[] WORDS = {"get", "head", "put", "post", "delete", "/", ",", "=", "-", "*", "lang", "coding",
      "size", "max-age", "max-stale", "min-fresh", "no-cache", "no-store", "only-if-cached", "if-match",
      "if-none-match", "if-modified-since", "if-unmodified-since", "range", "if-range", "s-maxage", "expires",
      "private", "must-revalidate", "stale-while", "stale-if", "now", "tag", "last"};

  int type(int a, int b, int c, int d, int e) {
    int n = 0;
    for (int t : new int[] {a, b, c, d, e}) {
      argument(t == NONE || in(t, 0, 33) || in(t, 1000, 1999));
      n += t == NONE ? 0 : 1;
    }
    if (row.size() + n > 60) {
      throw new IllegalStateException("model");
    }
    for (int t : new int[] {a, b, c, d, e}) {
      if (t != NONE) {
        row.add(t);
      }
    }
    return row.size();
  }

  int cut(int many) {
    argument(in(many, 1, 60));
    for (int i = 0; i < many && !row.isEmpty(); i++) {
      row.remove(row.size() - 1);
    }
    return row.size();
  }

  static String word(int t) {
    return t >= 1000 ? "" + (t - 1000) : WORDS[t];
  }

  String typed() {
    List<String> words = new ArrayList<>();
    for (int t : row) {
      words.add(word(t));
    }
    return String.join(" ", words);
  }

  /** Thrown where a TOKEN can not stand. */
  static final class Stop extends RuntimeException {
    private static final long serialVersionUID = 1;
    final int place;

    Stop(int place) {
      this.place = place;
    }
  }

  /** Reads a ROW by descent, and notes what stands in it. */
  final class Reader {
    int at;
    final Map<String, Integer> starts = new HashMap<>();
    int repeated = NONE;
    int outside = NONE;
    final Req req = new Req(0, 0, 0, 0, 0);
    final Policy pol = new Policy();
    int items;
    final Map<String, String> which = new HashMap<>();

    String peek() {
      if (at >= row.size()) {
        return "";
      }
      return row.get(at) >= 1000 ? "#" : word(row.get(at));
    }

    void take(String word) {
      if (!peek().equals(word)) {
        throw new Stop(at);
      }
      at++;
    }

    int number(int most) {
      take("#");
      int n = row.get(at - 1) - 1000;
      if (n > most) {
        outside(at - 1);
      }
      return n;
    }

    void outside(int place) {
      outside = outside == NONE ? place : outside;
    }

    void start(String word) {
      if (starts.containsKey(word) && repeated == NONE) {
        repeated = at;
      }
      starts.put(word, at);
      at++;
      items++;
    }

    void request() {
      req.method = List.of("get", "head", "put", "post", "delete").indexOf(peek());
      if (req.method < 0) {
        throw new Stop(at);
      }
      at++;
      take("/");
      req.path = number(11);
      while (at < row.size()) {
        take(",");
        field();
      }
    }

    int isNumber(int most) {
      take("=");
      return number(most);
    }

    void field() {
      String word = peek();
      if (!List.of(WORDS).subList(10, 25).contains(word)) {
        throw new Stop(at);
      }
      start(word);
      switch (word) {
        case "lang": req.lang = isNumber(2); break;
        case "coding": req.coding = isNumber(1); break;
        case "size": req.size = isNumber(40); break;
        case "max-age": req.wantsAge = isNumber(600); break;
        case "max-stale": req.letsStale = isNumber(600); break;
        case "min-fresh": req.wantsFresh = isNumber(600); break;
        case "no-cache": req.wishes |= 1; break;
        case "no-store": req.wishes |= 2; break;
        case "only-if-cached": req.wishes |= 4; break;
        case "if-match":
        case "if-none-match": take("="); which(word, true); break;
        case "if-range": take("="); which(word, false); break;
        case "if-modified-since": take("="); req.ifSince = date(); break;
        case "if-unmodified-since": take("="); req.ifUnchanged = date(); break;
        default: take("="); range(); break;
      }
    }

    void which(String word, boolean canBeAny) {
      String told = peek();
      if (!(told.equals("tag") || told.equals("last") || told.equals("#") || canBeAny && told.equals("*"))) {
        throw new Stop(at);
      }
      which.put(word, word(row.get(at)));
      at++;
    }

    int date() {
      if (peek().equals("now")) {
        at++;
        if (peek().equals("-")) {
          at++;
          return now - number(999);
        }
        return now;
      }
      return number(999);
    }

    void range() {
      if (peek().equals("-")) {
        at++;
        req.last = number(999);
        if (req.last == 0) {
          outside(at - 1);
        }
        return;
      }
      req.first = number(999);
      take("-");
      if (peek().equals("#")) {
        req.last = number(999);
        if (req.last < req.first) {
          outside(at - 1);
        }
      }
    }

    void policy() {
      if (row.isEmpty()) {
        return;
      }
      item();
      while (at < row.size()) {
        take(",");
        item();
      }
    }

    void item() {
      String word = peek();
      int flag = List.of("no-store", "no-cache", "private", "must-revalidate").indexOf(word);
      if (flag < 0 && !List.of("max-age", "s-maxage", "expires", "stale-while", "stale-if").contains(word)) {
        throw new Stop(at);
      }
      start(word);
      switch (word) {
        case "max-age": pol.maxAge = isNumber(600); break;
        case "s-maxage": pol.sharedAge = isNumber(600); break;
        case "expires": pol.expires = isNumber(600); break;
        case "stale-while": pol.staleWhile = isNumber(60); break;
        case "stale-if": pol.staleIf = isNumber(60); break;
        default: pol.flags |= 1 << flag; break;
      }
    }

    /** KIND and place. */
    int[] fault(boolean isPolicy) {
      try {
        if (isPolicy) {
          policy();
        } else {
          request();
        }
      } catch (Stop stop) {
        return new int[] {1, stop.place};
      }
      if (repeated != NONE) {
        return new int[] {2, repeated};
      }
      return outside != NONE ? new int[] {3, outside} : new int[] {0, NONE};
    }

    int tagOf(String word) {
      String told = which.get(word);
      if (told == null) {
        return NONE;
      }
      switch (told) {
        case "*": return -2;
        case "last": return lastTag;
        case "tag": return Math.max(0, tag(req.path, req.lang, req.coding));
        default: return Integer.parseInt(told);
      }
    }
  }

  int fault(boolean isPolicy, boolean isPlace) {
    return new Reader().fault(isPolicy)[isPlace ? 1 : 0];
  }

  int toDraft() {
    Reader reader = new Reader();
    if (reader.fault(false)[0] != 0) {
      return refused();
    }
    draft = reader.req;
    draft.ifMatch = reader.tagOf("if-match");
    draft.ifNone = reader.tagOf("if-none-match");
    draft.ifRange = reader.tagOf("if-range");
    return sents.size();
  }

  int toPolicy(int path) {
    index(in(path, 0, 11));
    Reader reader = new Reader();
    if (reader.fault(true)[0] != 0) {
      return refused();
    }
    policies[path] = reader.pol;
    return reader.items;
  }

  // ---- the house

  int blank() {
    blanks++;
    return -9;
  }

  int knock() {
    knocks++;
    return knocks;
  }

  int house(int what) {
    argument(in(what, 0, 21));
    int waits = 0;
    int[] hows = new int[9];
    for (Sent s : sents) {
      if (s.told) {
        hows[s.how]++;
      } else {
        waits++;
      }
    }
    if (what >= 9 && what <= 17) {
      return hows[what - 9];
    }
    int running = 0;
    for (Fetch f : fetches) {
      running += f.ended == 0 ? 1 : 0;
    }
    int[] first = {now, sents.size(), waits, fetches.size(), running, store.size(), costOfAll(), room, crowded};
    return what <= 8 ? first[what] : new int[] {signs, blanks, knocks, refusals}[what - 18];
  }

  boolean isSound() {
    for (Sent s : sents) {
      if (!isTrue(s.id)) {
        return false;
      }
    }
    Set<List<Integer>> seen = new HashSet<>();
    for (Ent e : store) {
      if (!seen.add(List.of(e.path, e.vary, e.lang, e.coding))) {
        return false;
      }
      if (e.strong()) {
        for (int i : e.held.keySet()) {
          int n = e.tag / 12;
          if (e.held.get(i) != signOf(i, e.path, n / 1000, e.tag / 2 % 6, n % 1000, e.total)) {
            return false;
          }
        }
      }
    }
    for (Fetch f : fetches) {
      if (f.ended == 0 && f.kind <= 1 && joinable(f.ask) != f) {
        return false;
      }
    }
    for (int o = 0; o < 5; o++) {
      for (int p = 0; p < 12; p++) {
        List<Integer> ring = ring(p, weights());
        int is = ring.isEmpty() ? NONE : ring.get(0);
        for (int w = 0; w <= 4; w++) {
          int then = ifWeighed(o, w, p);
          if (then != is && then != o && is != o) {
            return false;
          }
        }
      }
    }
    return costOfAll() <= room;
  }

  long digest() {
    List<Object> all = new ArrayList<>();
    for (int i = 0; i <= 21; i++) {
      all.add(house(i));
    }
    for (int o = 0; o < 5; o++) {
      for (int i = 0; i <= 8; i++) {
        all.add(ofOrigin(o, i));
      }
    }
    for (int p = 0; p < 12; p++) {
      for (int i = 0; i <= 11; i++) {
        all.add(ofPath(p, i));
      }
      all.add(order(p, false));
      all.add(order(p, true));
    }
    all.add(draftText());
    all.add(typed());
    all.add(fault(false, true));
    all.add(fault(false, false));
    all.add(fault(true, true));
    all.add(fault(true, false));
    for (Sent s : sents) {
      for (int i = 0; i <= 13; i++) {
        all.add(ofAnswer(s.id, i));
      }
      all.add(answerBody(s.id));
    }
    for (int k = 0; k < store.size(); k++) {
      for (int i = 0; i <= 15; i++) {
        all.add(ofEntry(k, i));
      }
      all.add(entryBody(k));
    }
    for (Fetch f : fetches) {
      for (int i = 0; i <= 10; i++) {
        all.add(ofFetch(f.number, i));
      }
    }
    all.add(isSound() ? 1 : 0);
    long d = 7656;
    for (Object v : all) {
      if (v instanceof Integer) {
        d = d * 31 + (Integer) v;
      } else {
        for (char c : Objects.toString(v).toCharArray()) {
          d = d * 31 + c;
        }
      }
    }
    return d;
  }
}
