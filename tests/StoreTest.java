/** Promises 37 to 45 and section 5: the store. */
public final class StoreTest {
  private static final Check CHECK = new Check();

  public static void main(String[] args) {
    room();
    entries();
    ofEntry();
    entryBody();
    selected();
    keptLast();
    wouldBe();
    purge();
    flush();
    warm();
    crowding();
    keepable();
    joining();
    renewing();
    CHECK.end();
  }

  /** At each of the PATHS a DOCUMENT with one SIGN more than its number, kept and FRESH for long. */
  private static Cachefront full(int paths) {
    Cachefront x = new Cachefront();
    for (int path = 0; path < paths; path++) {
      x.write(path, path + 1, 3, 0);
      x.policy(path, 600, -1, -1, 0);
    }
    for (int path = 0; path < paths; path++) {
      x.get(path, 0, 0);
    }
    x.settle(9);
    return x;
  }

  private static String paths(Cachefront x) {
    StringBuilder text = new StringBuilder();
    for (int k = 0; k < x.entries(); k++) {
      text.append(text.length() > 0 ? " " : "").append(x.ofEntry(k, 0));
    }
    return text.toString();
  }

  private static void room() {
    CHECK.part("37 room");
    Cachefront x = full(5);
    CHECK.same("COST of all", x.house(6), 65);
    CHECK.same("just enough", x.room(65), 0);
    CHECK.same("one goes", x.room(64), 1);
    CHECK.same("the one that was USED longest ago", paths(x), "1 2 3 4");
    x.get(1, 0, 0);
    CHECK.same("USED", paths(x), "2 3 4 1");
    CHECK.same("two go", x.room(28), 2);
    CHECK.same("what is left", paths(x), "4 1");
    CHECK.same("ROOM", x.house(7), 28);
    CHECK.same("went for want of it", x.house(8), 3);
    CHECK.same("none stays", x.room(0), 2);
    CHECK.same("more", x.room(600), 0);
    CHECK.same("went for want of it", x.house(8), 5);
    for (int room : new int[] {-1, 601, Integer.MIN_VALUE, Integer.MAX_VALUE}) {
      CHECK.wrongArgument(x, "room(" + room + ")", () -> x.room(room));
    }
  }

  private static void entries() {
    CHECK.part("38 entries");
    Cachefront x = full(4);
    CHECK.same("four", x.entries(), 4);
    x.purge(2);
    CHECK.same("three", x.entries(), 3);
    CHECK.same("none", new Cachefront().entries(), 0);
  }

  private static void ofEntry() {
    CHECK.part("39 ofEntry");
    Cachefront x = new Cachefront();
    x.goBy(5);
    x.write(3, 7, 3, 1);
    x.policy(3, 6, -1, -1, 0);
    int first = x.order(3, true).charAt(0) - '0';
    x.offset(first, -4);
    x.delay(first, 2);
    x.get(3, 2, 1);
    x.settle(9);
    x.goBy(1);
    int[] due = {3, 1, 2, 0, 7, 6, 3, 5, 12004, 7, 7, 5, 9, 7, 17, 0};
    for (int what = 0; what <= 15; what++) {
      CHECK.same("ofEntry(0, " + what + ")", x.ofEntry(0, what), due[what]);
    }
    x.write(4, 3, 0, 2);
    x.policy(4, 600, -1, -1, 0);
    x.get(4, 2, 1);
    x.settle(9);
    int[] then = {4, 2, 0, 1, 2, 600, 11, -1000, -1, 3, 3, 10, 12, 11, 13, 1};
    for (int what = 0; what <= 15; what++) {
      CHECK.same("ofEntry(1, " + what + ")", x.ofEntry(1, what), then[what]);
    }
    CHECK.outOfBounds(x, "ofEntry(2, 16)", () -> x.ofEntry(2, 16));
    CHECK.outOfBounds(x, "ofEntry(-1, 0)", () -> x.ofEntry(-1, 0));
    CHECK.wrongArgument(x, "ofEntry(0, 16)", () -> x.ofEntry(0, 16));
    CHECK.wrongArgument(x, "ofEntry(1, -1)", () -> x.ofEntry(1, -1));
  }

  private static void entryBody() {
    CHECK.part("40 entryBody");
    Cachefront x = full(6);
    CHECK.same("all", x.entryBody(5), x.body(5, 0, 0));
    x.flush();
    x.draft(0, 5, 0, 0, 0);
    x.range(2, 3, -1);
    x.send();
    x.settle(9);
    CHECK.same("a part", x.entryBody(0), ".." + x.body(5, 0, 0).substring(2, 4) + "..");
    x.write(0, 0, 0, 0);
    x.get(0, 0, 0);
    x.settle(9);
    CHECK.same("nothing", x.entryBody(1), "");
    CHECK.outOfBounds(x, "entryBody(2)", () -> x.entryBody(2));
    CHECK.outOfBounds(x, "entryBody(-1)", () -> x.entryBody(-1));
  }

  private static void selected() {
    CHECK.part("41 selected");
    Cachefront x = new Cachefront();
    CHECK.same("none", x.selected(0, 0, 0), -1);
    x.write(0, 3, 3, 3);
    x.policy(0, 600, -1, -1, 0);
    x.get(0, 0, 0);
    x.get(0, 1, 0);
    x.get(0, 1, 1);
    x.settle(9);
    CHECK.same("by both", x.selected(0, 0, 0), 0);
    CHECK.same("by both", x.selected(0, 1, 0), 1);
    CHECK.same("by both", x.selected(0, 1, 1), 2);
    CHECK.same("by both", x.selected(0, 0, 1), -1);
    CHECK.same("another PATH", x.selected(1, 0, 0), -1);
    x.write(0, 3, 3, 1);
    x.get(0, 1, 1);
    x.get(0, 2, 1);
    x.settle(9);
    CHECK.same("a newer one of another VARY", x.selected(0, 2, 0), 3);
    CHECK.same("was USED last, is not the newest", x.selected(0, 1, 1), 2);
    x.draft(0, 0, 1, 1, 0);
    x.wish(0, -1, -1, 0);
    x.send();
    x.settle(9);
    CHECK.same("the greatest GOT", x.ofEntry(x.selected(0, 1, 0), 1), 1);
    CHECK.same("it FITS, too", x.selected(0, 1, 0), x.selected(0, 1, 1));
    CHECK.outOfBounds(x, "selected(12, 3, 0)", () -> x.selected(12, 3, 0));
    CHECK.outOfBounds(x, "selected(-1, 0, 0)", () -> x.selected(-1, 0, 0));
    int[][] wrong = {{3, 0}, {-1, 0}, {0, 2}, {0, -1}};
    for (int[] w : wrong) {
      CHECK.wrongArgument(x, "selected", () -> x.selected(0, w[0], w[1]));
    }
  }

  /** Two that come in one TICK: neither USE nor number tells which is SELECTED, but which was kept last. */
  private static void keptLast() {
    CHECK.part("5 SELECTED of several");
    Cachefront x = new Cachefront();
    x.write(0, 5, 3, 1);
    x.policy(0, 600, -1, -1, 0);
    int first = x.order(0, true).charAt(0) - '0';
    x.delay(first, 2);
    x.warm(0, 0, 0);
    x.goBy(2);
    x.write(0, 5, 3, 2);
    x.delay(first, 1);
    x.warm(0, 1, 0);
    x.goBy(2);
    CHECK.same("both at once", x.ofEntry(0, 12), x.ofEntry(1, 12));
    CHECK.same("the one kept last", x.ofEntry(x.selected(0, 0, 0), 1), 2);
    x.get(0, 0, 1);
    CHECK.same("USED last", x.ofEntry(1, 1), 1);
    CHECK.same("hit", x.answerText(0), "200 hit, age=4, tag=12000");
    CHECK.same("the one kept last", x.ofEntry(x.selected(0, 0, 0), 1), 2);
    CHECK.same("of one alone", x.ofEntry(x.selected(0, 0, 1), 1), 1);
    x.get(0, 0, 0);
    CHECK.same("hit", x.answerText(1), "200 hit, age=2, tag=24000");
  }

  private static void wouldBe() {
    CHECK.part("42 wouldBe");
    Cachefront x = full(1);
    long before = x.digest();
    CHECK.same("FRESH", x.wouldBe(), 0);
    CHECK.same("nothing changed", x.digest(), before);
    x.wish(0, -1, -1, 0);
    CHECK.same("a FETCH", x.wouldBe(), 1);
    x.wish(0, -1, -1, 4);
    CHECK.same("not kept", x.wouldBe(), 7);
    x.wish(-1, -1, -1, 6);
    CHECK.same("a PASS goes ahead", x.wouldBe(), 6);
    x.wish(-1, -1, -1, 0);
    x.match(-2, -1);
    CHECK.same("a PASS", x.wouldBe(), 6);
    x.match(-1, -2);
    CHECK.same("no PASS", x.wouldBe(), 0);
    x.since(5, 0);
    CHECK.same("a PASS", x.wouldBe(), 6);
    for (int method = 0; method < 5; method++) {
      x.draft(method, 0, 0, 0, 0);
      CHECK.same("METHOD " + method, x.wouldBe(), method < 2 ? 0 : 6);
    }
    x.draft(0, 3, 0, 0, 0);
    CHECK.same("nothing is there", x.wouldBe(), 1);
    x.get(3, 0, 0);
    CHECK.same("it would WAIT", x.wouldBe(), 2);
    x.wish(-1, -1, -1, 4);
    CHECK.same("ONLY_KEPT goes ahead", x.wouldBe(), 7);
    x.draft(0, 3, 0, 1, 0);
    CHECK.same("another CODING", x.wouldBe(), 1);
    Cachefront y = new Cachefront();
    y.write(0, 3, 3, 0);
    y.stale(0, 9, 0);
    y.get(0, 0, 0);
    y.goBy(3);
    CHECK.same("stale while", y.wouldBe(), 4);
    y.wish(-1, 3, -1, 0);
    CHECK.same("let stale", y.wouldBe(), 3);
  }

  private static void purge() {
    CHECK.part("43 purge");
    Cachefront x = full(3);
    x.write(1, 3, 3, 1);
    x.draft(0, 1, 2, 0, 0);
    x.wish(0, -1, -1, 0);
    x.send();
    x.settle(9);
    CHECK.same("before", paths(x), "0 1 2 1");
    CHECK.same("two", x.purge(1), 2);
    CHECK.same("after", paths(x), "0 2");
    CHECK.same("none", x.purge(1), 0);
    CHECK.same("not for want of ROOM", x.house(8), 0);
    CHECK.outOfBounds(x, "purge(12)", () -> x.purge(12));
    CHECK.outOfBounds(x, "purge(-1)", () -> x.purge(-1));
  }

  private static void flush() {
    CHECK.part("44 flush");
    Cachefront x = full(3);
    CHECK.same("all", x.flush(), 3);
    CHECK.same("none is left", x.entries(), 0);
    CHECK.same("none", x.flush(), 0);
    CHECK.same("COST", x.house(6), 0);
    CHECK.same("not for want of ROOM", x.house(8), 0);
  }

  private static void warm() {
    CHECK.part("45 warm");
    Cachefront x = new Cachefront();
    x.write(2, 6, 3, 1);
    CHECK.same("its number", x.warm(2, 1, 0), 0);
    CHECK.same("WHOLE", x.ofFetch(0, 0), 0);
    CHECK.same("plain", x.fetchText(0), "GET /2, lang=1");
    CHECK.same("one is enough", x.warm(2, 1, 0), -9);
    CHECK.same("REFUSED is counted", x.house(21), 1);
    CHECK.same("another LANG", x.warm(2, 0, 0), 1);
    x.goBy(2);
    CHECK.same("both are kept", x.entries(), 2);
    CHECK.same("VALIDATE", x.warm(2, 1, 1), 2);
    CHECK.same("VALIDATE", x.ofFetch(2, 0), 1);
    CHECK.same("by its TAG", x.fetchText(2), "GET /2, lang=1, coding=1, if-none-match=12002");
    x.get(2, 1, 1);
    CHECK.same("one WAITS for it", x.ofFetch(2, 8), 1);
    x.purge(2);
    x.goBy(2);
    CHECK.same("E as it was", x.entryBody(0), x.body(2, 1, 1));
    CHECK.same("304", x.ofFetch(2, 10), 304);
    x.weigh(0, 0);
    x.weigh(1, 0);
    x.weigh(2, 0);
    int next = x.house(3);
    CHECK.same("nobody to ask", x.warm(7, 0, 0), next);
    CHECK.same("503", x.ofFetch(next, 10), 503);
    CHECK.outOfBounds(x, "warm(12, 3, 0)", () -> x.warm(12, 3, 0));
    CHECK.outOfBounds(x, "warm(-1, 0, 0)", () -> x.warm(-1, 0, 0));
    int[][] wrong = {{3, 0}, {-1, 0}, {0, 2}, {0, -1}};
    for (int[] w : wrong) {
      CHECK.wrongArgument(x, "warm", () -> x.warm(0, w[0], w[1]));
    }
  }

  // ---- section 5

  private static void crowding() {
    CHECK.part("5 ROOM");
    Cachefront x = full(4);
    x.room(50);
    x.write(5, 3, 3, 0);
    x.get(5, 0, 0);
    x.settle(9);
    CHECK.same("two go", paths(x), "2 3 5");
    CHECK.same("COST", x.house(6), 40);
    x.write(6, 40, 3, 0);
    x.get(6, 0, 0);
    x.settle(9);
    CHECK.same("all go", paths(x), "6");
    CHECK.same("went for want of ROOM", x.house(8), 5);
    x.room(49);
    CHECK.same("it goes", x.house(8), 6);
    x.get(6, 0, 0);
    x.get(0, 0, 0);
    x.settle(9);
    CHECK.same("not kept", paths(x), "0");
    CHECK.same("nothing went", x.house(8), 6);
    CHECK.same("told nevertheless", x.answerBody(6), x.body(6, 0, 0));
    x.room(15);
    x.write(0, 6, 3, 0);
    x.warm(0, 0, 0);
    x.goBy(2);
    CHECK.same("the old one goes, the new one has no ROOM", x.entries(), 0);
    CHECK.same("nothing went for want of it", x.house(8), 6);
  }

  private static void keepable() {
    CHECK.part("5 KEEPABLE");
    for (int flags : new int[] {1, 4}) {
      Cachefront x = full(2);
      x.policy(1, 600, -1, -1, flags);
      CHECK.same("kept already", x.get(1, 0, 0), 2);
      x.write(1, 2, 3, 0);
      x.warm(1, 0, 0);
      x.goBy(2);
      CHECK.same("those that FIT go", paths(x), "0");
      x.get(1, 0, 0);
      x.settle(9);
      CHECK.same("told", x.answerText(3), "200 fetched, age=2, tag=24000");
      CHECK.same("not kept", paths(x), "0");
      x.policy(0, 600, -1, -1, flags);
      x.draft(0, 0, 0, 0, 0);
      x.wish(-1, -1, -1, 1);
      x.send();
      x.settle(9);
      CHECK.same("304", x.answerText(4), "200 validated, age=2, tag=12000");
      CHECK.same("those that FIT go", x.entries(), 0);
    }
    Cachefront x = full(1);
    x.policy(0, 600, -1, -1, 10);
    x.warm(0, 0, 0);
    x.goBy(2);
    CHECK.same("NO_CACHE and MUST are kept", x.entries(), 1);
    parts(2, 0);
    parts(3, 1);
    parts(3, 4);
    parts(3, 0);
    others();
  }

  /** A 206 is kept with a strong TAG alone, and lets ENTRIES stay if it is not. */
  private static void parts(int sort, int flags) {
    Cachefront x = new Cachefront();
    x.write(0, 9, 3, 0);
    x.policy(0, 2, -1, -1, 0);
    x.draft(0, 0, 0, 0, 0);
    x.range(0, 3, -1);
    x.send();
    x.settle(9);
    x.write(0, 9, sort, 0);
    x.policy(0, 2, -1, -1, flags);
    x.range(4, 5, -1);
    x.send();
    CHECK.same("a PART", x.fetchText(1), "GET /0, range=4-5");
    x.settle(9);
    CHECK.same("told", x.answerBody(1), x.body(0, 0, 0).substring(4, 6));
    boolean isKept = sort == 3 && flags == 0;
    String body = x.body(0, 0, 0);
    CHECK.same("another TAG", x.ofEntry(0, 8), isKept ? 24000 : 12000);
    CHECK.same("HELD", x.ofEntry(0, 10), isKept ? 2 : 4);
    CHECK.same("SIGNS", isKept ? x.entryBody(0) : "", isKept ? "...." + body.substring(4, 6) + "..." : "");
    CHECK.same("isSound", x.isSound(), true);
  }

  private static void others() {
    Cachefront x = new Cachefront();
    x.write(0, 4, 3, 1);
    x.policy(0, 1, -1, -1, 0);
    x.get(0, 0, 0);
    x.get(0, 1, 0);
    x.settle(9);
    x.policy(0, 1, -1, -1, 1);
    x.get(0, 1, 0);
    x.settle(9);
    CHECK.same("those of another LANG stay", x.entries(), 1);
    CHECK.same("those of another LANG stay", x.ofEntry(0, 2), 0);
    x.remove(0);
    x.get(0, 2, 0);
    x.settle(9);
    CHECK.same("404 of another LANG", x.entries(), 1);
    x.get(0, 0, 0);
    x.settle(9);
    CHECK.same("404", x.entries(), 0);
  }

  private static int part(Cachefront x, int first, int last) {
    x.draft(0, 0, 0, 0, 0);
    x.range(first, last, -1);
    return x.send();
  }

  private static void joining() {
    CHECK.part("5 to JOIN");
    Cachefront x = new Cachefront();
    x.write(0, 12, 3, 0);
    x.touch(0);
    x.policy(0, 30, -1, -1, 0);
    String body = x.body(0, 0, 0);
    part(x, 2, 3);
    part(x, 6, 7);
    x.settle(9);
    CHECK.same("with what is there by then", x.entryBody(0), ".." + body.substring(2, 4) + ".." + body.substring(6, 8) + "....");
    part(x, 2, 7);
    CHECK.same("one gap", x.fetchText(2), "GET /0, range=4-5, if-range=12012");
    part(x, 3, 9);
    CHECK.same("two gaps", x.fetchText(3), "GET /0, range=3-9");
    x.purge(0);
    x.settle(9);
    CHECK.same("E as it was", x.answerBody(2), body.substring(2, 8));
    CHECK.same("told", x.answerBody(3), body.substring(3, 10));
    CHECK.same("all that came", x.entryBody(0), ".." + body.substring(2, 10) + "..");
    part(x, -1, 1);
    CHECK.same("the end", x.fetchText(4), "GET /0, range=11-11, if-range=12012");
    x.settle(9);
    x.get(0, 0, 0);
    CHECK.same("two gaps of all", x.fetchText(5), "GET /0");
    x.write(0, 12, 3, 0);
    x.settle(9);
    part(x, 0, 0);
    CHECK.same("FRESH and WHOLE", x.answerText(6), "206 hit, age=2, tag=24000, range=0-0/12");
    hitsOfParts();
    gapsOfAll();
    changedSince();
    tooOldToJoin();
  }

  /** What is WANTED is HELD, though not all is. */
  private static void hitsOfParts() {
    Cachefront x = new Cachefront();
    x.write(0, 12, 3, 0);
    x.policy(0, 30, -1, -1, 0);
    part(x, 2, 7);
    x.settle(9);
    int[][] ranges = {{2, 7}, {3, 4}, {2, 2}, {7, 7}, {1, 2}, {7, 8}, {7, -1}, {12, -1}};
    for (int i = 0; i < ranges.length; i++) {
      x.draft(0, 0, 0, 0, 0);
      x.range(ranges[i][0], ranges[i][1], -1);
      CHECK.same("range " + ranges[i][0], x.wouldBe(), i < 4 || i == 7 ? 0 : 1);
      x.range(ranges[i][0], ranges[i][1], 12000);
      CHECK.same("with IF_RANGE all is WANTED", x.wouldBe(), 1);
      x.draft(1, 0, 0, 0, 0);
      x.range(ranges[i][0], ranges[i][1], -1);
      CHECK.same("of HEAD all is WANTED", x.wouldBe(), 1);
    }
    part(x, 3, 4);
    CHECK.same("a hit", x.answerText(1), "206 hit, age=2, tag=12000, range=3-4/12");
    CHECK.same("a hit", x.answerBody(1), x.body(0, 0, 0).substring(3, 5));
  }

  /** A plain GET, or a HEAD, with all but some places HELD. */
  private static void gapsOfAll() {
    int[][] held = {{0, 7}, {1, 8}, {0, 0}, {8, 8}};
    String[] asked = {"8-8", "0-0", "1-8", "0-7"};
    for (int i = 0; i < held.length; i++) {
      for (int method = 0; method <= 1; method++) {
        Cachefront x = new Cachefront();
        x.write(0, 9, 3, 0);
        x.policy(0, 30, -1, -1, 0);
        part(x, held[i][0], held[i][1]);
        x.settle(9);
        x.draft(method, 0, 0, 0, 0);
        CHECK.same("not READY", x.wouldBe(), 1);
        x.send();
        CHECK.same("what is not HELD", x.fetchText(1), "GET /0, range=" + asked[i] + ", if-range=12000");
        x.settle(9);
        CHECK.same("all of it", x.answerText(1), "200 fetched, age=2, tag=12000");
        CHECK.same("all of it", x.answerBody(1), method == 0 ? x.body(0, 0, 0) : "");
        CHECK.same("all of it", x.entryBody(0), x.body(0, 0, 0));
      }
    }
  }

  /** IF_RANGE does not hold: all of it comes, and a part of that is TOLD. */
  private static void changedSince() {
    Cachefront x = new Cachefront();
    x.write(0, 6, 3, 0);
    x.policy(0, 30, -1, -1, 0);
    part(x, 0, 3);
    x.settle(9);
    x.write(0, 8, 3, 0);
    part(x, 2, 5);
    CHECK.same("what is not HELD", x.fetchText(1), "GET /0, range=4-5, if-range=12000");
    x.settle(9);
    CHECK.same("200", x.ofFetch(1, 10), 200);
    CHECK.same("206", x.answerText(1), "206 fetched, age=2, tag=24000, range=2-5/8");
    CHECK.same("all of it", x.entryBody(0), x.body(0, 0, 0));
    CHECK.same("alone", x.entries(), 1);
    part(x, 8, 9);
    CHECK.same("416 of the front", x.answerText(2), "416 hit, age=2, tag=24000");
    x.purge(0);
    part(x, 8, 9);
    x.settle(9);
    CHECK.same("416 of an ORIGIN", x.answerText(3), "416 fetched");
    CHECK.same("nothing is kept", x.entries(), 0);
  }

  /** PART with IF_RANGE is for FRESH ones without NO_CACHE. */
  private static void tooOldToJoin() {
    for (int kind = 0; kind < 4; kind++) {
      Cachefront x = new Cachefront();
      x.write(0, 6, 3, 0);
      x.policy(0, 5, -1, -1, kind == 1 ? 2 : 0);
      part(x, 0, 3);
      x.settle(9);
      x.goBy(kind == 2 ? 3 : 2);
      x.draft(0, 0, 0, 0, 0);
      x.wish(-1, -1, -1, kind == 3 ? 1 : 0);
      x.send();
      CHECK.same("kind " + kind, x.fetchText(1), kind == 0 ? "GET /0, range=4-5, if-range=12000" : "GET /0");
      CHECK.same("kind " + kind, x.ofFetch(1, 0), kind == 0 ? 2 : 0);
      x.settle(9);
      CHECK.same("all", x.answerBody(1), x.body(0, 0, 0));
    }
  }

  private static void renewing() {
    CHECK.part("6 a 304");
    Cachefront x = new Cachefront();
    x.write(0, 6, 2, 0);
    x.policy(0, 1, -1, -1, 0);
    x.get(0, 0, 0);
    x.settle(9);
    String body = x.body(0, 0, 0);
    x.goBy(8);
    x.touch(0);
    x.policy(0, 7, -1, -1, 8);
    x.stale(0, 3, 4);
    x.get(0, 0, 0);
    x.settle(9);
    int[] due = {0, 0, 0, 0, 2, 7, 11, 10, 12001, 6, 6, 10, 12, 11, 16, 1};
    for (int what = 0; what <= 15; what++) {
      CHECK.same("ofEntry(0, " + what + ")", x.ofEntry(0, what), due[what]);
    }
    CHECK.same("the same SIGNS", x.entryBody(0), body);
    CHECK.same("told", x.answerBody(1), body);
    CHECK.same("isSound", x.isSound(), true);
  }
}
