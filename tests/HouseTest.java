/** Promises 12 to 20: documents and policies, and section 4: what an origin tells. */
public final class HouseTest {
  private static final Check CHECK = new Check();

  public static void main(String[] args) {
    write();
    touch();
    remove();
    policy();
    stale();
    ofPath();
    body();
    tag();
    policyText();
    changesByRequests();
    conditions();
    readings();
    CHECK.end();
  }

  private static void write() {
    CHECK.part("12 write");
    Cachefront x = new Cachefront();
    CHECK.same("the first one", x.write(11, 40, 3, 3), 1);
    x.touch(11);
    x.goBy(7);
    CHECK.same("the second one", x.write(11, 0, 0, 0), 2);
    CHECK.same("TOUCH", x.ofPath(11, 4), 0);
    CHECK.same("MODIFIED", x.ofPath(11, 5), 7);
    x.remove(11);
    CHECK.same("it goes on", x.write(11, 1, 1, 1), 3);
    CHECK.same("another PATH", x.write(0, 1, 1, 1), 1);
    for (int path : new int[] {-1, 12}) {
      CHECK.outOfBounds(x, "write(" + path + ", 41, ..)", () -> x.write(path, 41, 4, 4));
    }
    int[][] wrong = {{-1, 0, 0}, {41, 0, 0}, {0, -1, 0}, {0, 4, 0}, {0, 0, -1}, {0, 0, 4}};
    for (int[] w : wrong) {
      CHECK.wrongArgument(x, "write(0, " + w[0] + ", " + w[1] + ", " + w[2] + ")", () -> x.write(0, w[0], w[1], w[2]));
    }
  }

  private static void touch() {
    CHECK.part("13 touch");
    Cachefront x = new Cachefront();
    CHECK.same("without", x.touch(3), -9);
    CHECK.same("REFUSED is counted", x.house(21), 1);
    x.write(3, 5, 2, 1);
    x.goBy(4);
    CHECK.same("once", x.touch(3), 1);
    CHECK.same("twice", x.touch(3), 2);
    int[] due = {5, 2, 1, 1, 2, 4};
    for (int what = 0; what <= 5; what++) {
      CHECK.same("ofPath(3, " + what + ")", x.ofPath(3, what), due[what]);
    }
    CHECK.outOfBounds(x, "touch(-1)", () -> x.touch(-1));
    CHECK.outOfBounds(x, "touch(12)", () -> x.touch(12));
  }

  private static void remove() {
    CHECK.part("14 remove");
    Cachefront x = new Cachefront();
    CHECK.same("without", x.remove(0), -9);
    x.write(0, 5, 2, 1);
    x.write(0, 5, 2, 1);
    CHECK.same("VERSION", x.remove(0), 2);
    for (int what = 0; what <= 5; what++) {
      CHECK.same("ofPath(0, " + what + ")", x.ofPath(0, what), -1);
    }
    CHECK.same("gone already", x.remove(0), -9);
    CHECK.same("REFUSED is counted", x.house(21), 2);
    CHECK.same("touch", x.touch(0), -9);
    CHECK.outOfBounds(x, "remove(-1)", () -> x.remove(-1));
    CHECK.outOfBounds(x, "remove(12)", () -> x.remove(12));
  }

  private static void policy() {
    CHECK.part("15 policy");
    Cachefront x = new Cachefront();
    x.stale(4, 5, 6);
    CHECK.same("FLAGS before", x.policy(4, 0, 600, -1, 15), 0);
    CHECK.same("FLAGS before", x.policy(4, 600, -1, 0, 8), 15);
    int[] due = {600, -1, 0, 8, 5, 6};
    for (int k = 0; k < 6; k++) {
      CHECK.same("ofPath(4, " + (6 + k) + ")", x.ofPath(4, 6 + k), due[k]);
    }
    CHECK.same("another one", x.ofPath(5, 6), -1);
    for (int path : new int[] {-1, 12}) {
      CHECK.outOfBounds(x, "policy(" + path + ", -2, ..)", () -> x.policy(path, -2, 601, 0, 16));
    }
    int[][] wrong = {{-2, 0, 0, 0}, {601, 0, 0, 0}, {0, -2, 0, 0}, {0, 601, 0, 0}, {0, 0, -2, 0}, {0, 0, 601, 0},
        {0, 0, 0, -1}, {0, 0, 0, 16}};
    for (int[] w : wrong) {
      CHECK.wrongArgument(x, "policy", () -> x.policy(0, w[0], w[1], w[2], w[3]));
    }
  }

  private static void stale() {
    CHECK.part("16 stale");
    Cachefront x = new Cachefront();
    x.policy(2, 1, 2, 3, 4);
    CHECK.same("before", x.stale(2, 60, 0), 0);
    CHECK.same("before", x.stale(2, 0, 60), 60);
    int[] due = {1, 2, 3, 4, 0, 60};
    for (int k = 0; k < 6; k++) {
      CHECK.same("ofPath(2, " + (6 + k) + ")", x.ofPath(2, 6 + k), due[k]);
    }
    for (int path : new int[] {-1, 12}) {
      CHECK.outOfBounds(x, "stale(" + path + ", 61, 0)", () -> x.stale(path, 61, 0));
    }
    int[][] wrong = {{-1, 0}, {61, 0}, {0, -1}, {0, 61}};
    for (int[] w : wrong) {
      CHECK.wrongArgument(x, "stale", () -> x.stale(0, w[0], w[1]));
    }
  }

  private static void ofPath() {
    CHECK.part("17 ofPath");
    Cachefront x = new Cachefront();
    x.policy(6, 1, 2, 3, 4);
    x.stale(6, 5, 6);
    for (int what = 0; what <= 11; what++) {
      CHECK.same("without a DOCUMENT: " + what, x.ofPath(6, what), what <= 5 ? -1 : what - 5);
    }
    x.goBy(9);
    x.write(6, 40, 3, 2);
    x.touch(6);
    int[] due = {40, 3, 2, 1, 1, 9, 1, 2, 3, 4, 5, 6};
    for (int what = 0; what <= 11; what++) {
      CHECK.same("with one: " + what, x.ofPath(6, what), due[what]);
    }
    CHECK.outOfBounds(x, "ofPath(12, 12)", () -> x.ofPath(12, 12));
    CHECK.outOfBounds(x, "ofPath(-1, 0)", () -> x.ofPath(-1, 0));
    CHECK.wrongArgument(x, "ofPath(0, 12)", () -> x.ofPath(0, 12));
    CHECK.wrongArgument(x, "ofPath(0, -1)", () -> x.ofPath(0, -1));
  }

  /** The BODY of the document's words. */
  private static String bodyOf(int path, int length, int version, int touch, int variant) {
    StringBuilder text = new StringBuilder();
    for (int i = 0; i < length; i++) {
      char sign = "abcdefghijklmnopqrstuvwxyz".charAt((7 * i + 3 * version + 5 * path + 11 * variant) % 26);
      text.append(i < touch % (length + 1) ? Character.toUpperCase(sign) : sign);
    }
    return text.toString();
  }

  private static void body() {
    CHECK.part("18 body");
    for (int vary = 0; vary <= 3; vary++) {
      for (int length : new int[] {0, 1, 9, 40}) {
        Cachefront x = new Cachefront();
        int path = 11 - vary;
        x.write(path, 3, 0, 0);
        x.write(path, length, vary, vary);
        for (int touch = 0; touch < 12; touch++) {
          for (int v = 0; v < 6; v++) {
            int lang = v % 3;
            int coding = v / 3;
            int variant = (vary % 2 == 1 ? lang : 0) + (vary >= 2 ? 3 * coding : 0);
            CHECK.same("body", x.body(path, lang, coding), bodyOf(path, length, 2, touch, variant));
          }
          x.touch(path);
        }
      }
    }
    Cachefront x = new Cachefront();
    CHECK.same("without", x.body(1, 2, 1), "-");
    CHECK.outOfBounds(x, "body(12, 3, 0)", () -> x.body(12, 3, 0));
    CHECK.outOfBounds(x, "body(-1, 0, 0)", () -> x.body(-1, 0, 0));
    int[][] wrong = {{3, 0}, {-1, 0}, {0, 2}, {0, -1}};
    for (int[] w : wrong) {
      CHECK.wrongArgument(x, "body", () -> x.body(0, w[0], w[1]));
    }
  }

  private static void tag() {
    CHECK.part("19 tag");
    Cachefront x = new Cachefront();
    CHECK.same("without", x.tag(0, 0, 0), -1);
    for (int sort = 0; sort <= 3; sort++) {
      x.write(0, 5, sort, 3);
      int version = sort + 1;
      for (int touch = 0; touch < 4; touch++) {
        for (int v = 0; v < 6; v++) {
          int strong = ((version * 1000 + touch) * 6 + v) * 2;
          int weak = (version * 6000 + v) * 2 + 1;
          CHECK.same("SORT " + sort, x.tag(0, v % 3, v / 3), sort == 3 ? strong : sort == 2 ? weak : -1);
        }
        x.touch(0);
      }
    }
    x.write(1, 0, 3, 2);
    CHECK.same("LANG is not in VARY", x.tag(1, 2, 1), 12006);
    CHECK.outOfBounds(x, "tag(12, 3, 0)", () -> x.tag(12, 3, 0));
    CHECK.outOfBounds(x, "tag(-1, 0, 0)", () -> x.tag(-1, 0, 0));
    int[][] wrong = {{3, 0}, {-1, 0}, {0, 2}, {0, -1}};
    for (int[] w : wrong) {
      CHECK.wrongArgument(x, "tag", () -> x.tag(0, w[0], w[1]));
    }
  }

  private static void policyText() {
    CHECK.part("20 policyText");
    Cachefront x = new Cachefront();
    CHECK.same("none", x.policyText(0), "");
    x.policy(0, 0, 600, 7, 15);
    x.stale(0, 60, 1);
    CHECK.same("all", x.policyText(0), "max-age=0, s-maxage=600, expires=7, no-store, no-cache, private, "
        + "must-revalidate, stale-while=60, stale-if=1");
    x.policy(0, -1, 0, -1, 4);
    x.stale(0, 0, 3);
    CHECK.same("some", x.policyText(0), "s-maxage=0, private, stale-if=3");
    x.policy(1, -1, -1, -1, 2);
    CHECK.same("one", x.policyText(1), "no-cache");
    CHECK.outOfBounds(x, "policyText(12)", () -> x.policyText(12));
    CHECK.outOfBounds(x, "policyText(-1)", () -> x.policyText(-1));
  }

  // ---- section 4

  private static String told(Cachefront x, int method, int path, int size, int[] conditions) {
    x.draft(method, path, 0, 0, size);
    x.match(conditions[0], conditions[1]);
    x.since(conditions[2], conditions[3]);
    int id = x.send();
    x.settle(60);
    return x.answerText(id);
  }

  private static String told(Cachefront x, int method, int path, int size) {
    return told(x, method, path, size, new int[] {-1, -1, -1000, -1000});
  }

  private static void changesByRequests() {
    CHECK.part("4 what PUT, POST and DELETE do");
    Cachefront x = new Cachefront();
    CHECK.same("DELETE of none", told(x, 4, 2, 0), "404 passed");
    CHECK.same("POST of none", told(x, 3, 2, 0), "404 passed");
    CHECK.same("PUT of none", told(x, 2, 2, 8), "201 passed");
    int[] due = {8, 3, 0, 1, 0, 5};
    for (int what = 0; what <= 5; what++) {
      CHECK.same("ofPath(2, " + what + ")", x.ofPath(2, what), due[what]);
    }
    CHECK.same("POST", told(x, 3, 2, 3), "204 passed");
    CHECK.same("a SMALL change", x.ofPath(2, 4), 1);
    CHECK.same("of the same LENGTH", x.ofPath(2, 0), 8);
    x.write(2, 9, 1, 2);
    CHECK.same("PUT", told(x, 2, 2, 0), "204 passed");
    int[] then = {0, 1, 2, 3, 0, 9};
    for (int what = 0; what <= 5; what++) {
      CHECK.same("SORT and VARY stay: " + what, x.ofPath(2, what), then[what]);
    }
    CHECK.same("DELETE", told(x, 4, 2, 0), "204 passed");
    CHECK.same("gone", x.ofPath(2, 0), -1);
    CHECK.same("PUT", told(x, 2, 2, 1), "201 passed");
    CHECK.same("VERSION goes on", x.ofPath(2, 3), 4);
    x.mood(0, 1);
    x.mood(1, 1);
    x.mood(2, 1);
    CHECK.same("FAILING", told(x, 2, 2, 7), "502 fault");
    CHECK.same("does nothing", x.ofPath(2, 3), 4);
    CHECK.same("a PUT has one TRY", x.ofFetch(x.house(3) - 1, 4), 1);
  }

  private static void conditions() {
    CHECK.part("4 conditions");
    Cachefront x = new Cachefront();
    int none = -1;
    int never = -1000;
    int any = -2;
    CHECK.same("PUT if any, of none", told(x, 2, 0, 5, new int[] {any, none, never, never}), "412 passed");
    CHECK.same("DELETE if any, of none", told(x, 4, 0, 0, new int[] {any, none, never, never}), "404 passed");
    CHECK.same("GET if any, of none", told(x, 0, 0, 0, new int[] {any, none, never, never}), "404 passed");
    CHECK.same("PUT if unchanged, of none", told(x, 2, 0, 5, new int[] {none, none, never, 0}), "201 passed");
    CHECK.same("PUT if none", told(x, 2, 0, 5, new int[] {none, any, never, never}), "412 passed");
    CHECK.same("PUT if not this one", told(x, 2, 0, 5, new int[] {none, 12000, never, never}), "412 passed");
    CHECK.same("PUT if not that one", told(x, 2, 0, 5, new int[] {none, 12002, never, never}), "204 passed");
    CHECK.same("VERSION", x.ofPath(0, 3), 2);
    CHECK.same("POST if that one", told(x, 3, 0, 0, new int[] {12000, none, never, never}), "412 passed");
    CHECK.same("POST if this one", told(x, 3, 0, 0, new int[] {24000, none, never, 0}), "204 passed");
    int changed = x.ofPath(0, 5);
    CHECK.same("if unchanged", told(x, 3, 0, 0, new int[] {none, none, never, changed - 1}), "412 passed");
    CHECK.same("if unchanged", told(x, 3, 0, 0, new int[] {none, none, never, changed}), "204 passed");
    CHECK.same("a PUT looks at no IF_SINCE", told(x, 2, 0, 1, new int[] {none, none, 600, never}), "204 passed");
    x.write(1, 3, 2, 0);
    CHECK.same("a weak TAG is no match", told(x, 3, 1, 0, new int[] {12001, none, never, never}), "412 passed");
    CHECK.same("any is", told(x, 3, 1, 0, new int[] {any, none, never, never}), "204 passed");
    CHECK.same("a weak TAG is the same", told(x, 4, 1, 0, new int[] {none, 12001, never, never}), "412 passed");
    x.write(3, 3, 0, 0);
    CHECK.same("without a date", told(x, 3, 3, 0, new int[] {none, none, never, 600}), "412 passed");
    CHECK.same("without a TAG", told(x, 3, 3, 0, new int[] {none, 12000, never, never}), "204 passed");
    CHECK.same("any without a TAG", told(x, 3, 3, 0, new int[] {none, any, never, never}), "412 passed");
  }

  private static String read(Cachefront x, int method, int[] conditions, int[] range) {
    x.draft(method, 0, 0, 0, 0);
    x.match(conditions[0], conditions[1]);
    x.since(conditions[2], conditions[3]);
    x.range(range[0], range[1], range[2]);
    int id = x.send();
    x.settle(60);
    return x.answerText(id) + " " + x.answerBody(id);
  }

  private static void readings() {
    CHECK.part("4 GET and HEAD with conditions");
    Cachefront x = new Cachefront();
    x.goBy(1);
    x.write(0, 4, 3, 0);
    String body = x.body(0, 0, 0);
    int never = -1000;
    int[] whole = {-1, -1, -1};
    CHECK.same("GET", read(x, 0, new int[] {12000, -1, never, never}, whole), "200 passed, age=2, tag=12000 " + body);
    CHECK.same("HEAD", read(x, 1, new int[] {12000, -1, never, never}, whole), "200 passed, age=2, tag=12000 ");
    CHECK.same("304", read(x, 0, new int[] {-2, 12000, never, never}, whole), "304 passed, age=2, tag=12000 ");
    CHECK.same("412 goes ahead", read(x, 0, new int[] {5, 12000, never, never}, whole), "412 passed ");
    CHECK.same("since", read(x, 0, new int[] {-2, -1, 1, never}, whole), "304 passed, age=2, tag=12000 ");
    CHECK.same("not since", read(x, 1, new int[] {-2, -1, 0, never}, whole), "200 passed, age=2, tag=12000 ");
    CHECK.same("IF_NONE hides IF_SINCE", read(x, 1, new int[] {-2, 5, 1, never}, whole), "200 passed, age=2, tag=12000 ");
    CHECK.same("206", read(x, 0, new int[] {-2, -1, never, never}, new int[] {1, 9, -1}),
        "206 passed, age=2, tag=12000, range=1-3/4 " + body.substring(1));
    CHECK.same("206 if", read(x, 0, new int[] {-2, -1, never, never}, new int[] {-1, 1, 12000}),
        "206 passed, age=2, tag=12000, range=3-3/4 " + body.substring(3));
    CHECK.same("200 if", read(x, 0, new int[] {-2, -1, never, never}, new int[] {-1, 1, 12002}),
        "200 passed, age=2, tag=12000 " + body);
    CHECK.same("416", read(x, 0, new int[] {-2, -1, never, never}, new int[] {4, -1, -1}), "416 passed ");
    CHECK.same("HEAD has no RANGE", read(x, 1, new int[] {-2, -1, never, never}, new int[] {4, -1, -1}),
        "200 passed, age=2, tag=12000 ");
    x.write(0, 4, 2, 0);
    CHECK.same("IF_RANGE of a weak TAG", read(x, 0, new int[] {-2, -1, never, never}, new int[] {1, 2, 24001}),
        "200 passed, age=2, tag=24001 " + x.body(0, 0, 0));
    x.write(0, 0, 3, 0);
    CHECK.same("nothing has no end", read(x, 0, new int[] {-2, -1, never, never}, new int[] {-1, 5, -1}), "416 passed ");
    CHECK.same("what an ORIGIN told has no TAG", x.ofAnswer(x.house(1) - 1, 6), -1);
    CHECK.same("and no date", x.ofAnswer(x.house(1) - 1, 4), -1000);
  }
}
