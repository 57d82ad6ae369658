/** Promises 21 to 30: the DRAFT, and REQUESTS as they are SENT. */
public final class RequestTest {
  private static final Check CHECK = new Check();
  private static final int MAX = Integer.MAX_VALUE;
  private static final int MIN = Integer.MIN_VALUE;

  public static void main(String[] args) {
    draft();
    wish();
    match();
    since();
    range();
    draftText();
    send();
    again();
    get();
    requestText();
    CHECK.end();
  }

  private static void draft() {
    CHECK.part("21 draft");
    Cachefront x = new Cachefront();
    x.wish(1, 2, 3, 7);
    x.match(-2, 4);
    x.since(5, 6);
    x.range(7, 8, 9);
    CHECK.same("its number", x.draft(4, 11, 2, 1, 40), 0);
    CHECK.same("empty but for these", x.draftText(), "DELETE /11, lang=2, coding=1, size=40");
    x.get(0, 0, 0);
    CHECK.same("its number", x.draft(1, 3, 0, 0, 0), 1);
    CHECK.same("HEAD", x.draftText(), "HEAD /3");
    int[][] wrong = {{-1, 0, 0, 0, 0}, {5, 0, 0, 0, 0}, {0, -1, 0, 0, 0}, {0, 12, 0, 0, 0}, {0, 0, -1, 0, 0},
        {0, 0, 3, 0, 0}, {0, 0, 0, -1, 0}, {0, 0, 0, 2, 0}, {0, 0, 0, 0, -1}, {0, 0, 0, 0, 41}, {MIN, MAX, 0, 0, 0}};
    for (int[] w : wrong) {
      CHECK.wrongArgument(x, "draft", () -> x.draft(w[0], w[1], w[2], w[3], w[4]));
    }
  }

  private static void wish() {
    CHECK.part("22 wish");
    Cachefront x = new Cachefront();
    CHECK.same("all", x.wish(0, 600, 0, 7), 6);
    CHECK.same("all", x.draftText(), "GET /0, max-age=0, max-stale=600, min-fresh=0, no-cache, no-store, only-if-cached");
    CHECK.same("some", x.wish(-1, 5, -1, 5), 3);
    CHECK.same("some", x.draftText(), "GET /0, max-stale=5, no-cache, only-if-cached");
    CHECK.same("none", x.wish(-1, -1, -1, 0), 0);
    CHECK.same("none", x.draftText(), "GET /0");
    int[][] wrong = {{-2, 0, 0, 0}, {601, 0, 0, 0}, {0, -2, 0, 0}, {0, 601, 0, 0}, {0, 0, -2, 0}, {0, 0, 601, 0},
        {0, 0, 0, -1}, {0, 0, 0, 8}, {MIN, MAX, 0, 0}};
    for (int[] w : wrong) {
      CHECK.wrongArgument(x, "wish", () -> x.wish(w[0], w[1], w[2], w[3]));
    }
  }

  private static void match() {
    CHECK.part("23 match");
    Cachefront x = new Cachefront();
    CHECK.same("both", x.match(-2, 0), 2);
    CHECK.same("both", x.draftText(), "GET /0, if-match=*, if-none-match=0");
    CHECK.same("one", x.match(-1, -2), 1);
    CHECK.same("one", x.draftText(), "GET /0, if-none-match=*");
    CHECK.same("one", x.match(MAX, -1), 1);
    CHECK.same("one", x.draftText(), "GET /0, if-match=2147483647");
    CHECK.same("none", x.match(-1, -1), 0);
    CHECK.wrongArgument(x, "match(-3, 0)", () -> x.match(-3, 0));
    CHECK.wrongArgument(x, "match(0, -3)", () -> x.match(0, -3));
    CHECK.wrongArgument(x, "match(0, MIN)", () -> x.match(0, MIN));
  }

  private static void since() {
    CHECK.part("24 since");
    Cachefront x = new Cachefront();
    CHECK.same("both", x.since(-999, 0), 2);
    CHECK.same("both", x.draftText(), "GET /0, if-modified-since=-999, if-unmodified-since=0");
    CHECK.same("one", x.since(-1000, MAX), 1);
    CHECK.same("one", x.draftText(), "GET /0, if-unmodified-since=2147483647");
    CHECK.same("one", x.since(-1, -1000), 1);
    CHECK.same("NONE is a TICK", x.draftText(), "GET /0, if-modified-since=-1");
    CHECK.same("none", x.since(-1000, -1000), 0);
    CHECK.wrongArgument(x, "since(-1001, 0)", () -> x.since(-1001, 0));
    CHECK.wrongArgument(x, "since(0, -1001)", () -> x.since(0, -1001));
    CHECK.wrongArgument(x, "since(MIN, 0)", () -> x.since(MIN, 0));
  }

  private static void range() {
    CHECK.part("25 range");
    Cachefront x = new Cachefront();
    CHECK.same("place to place", x.range(0, 0, -1), 1);
    CHECK.same("place to place", x.draftText(), "GET /0, range=0-0");
    CHECK.same("place to place", x.range(5, MAX, 7), 1);
    CHECK.same("place to place", x.draftText(), "GET /0, range=5-2147483647, if-range=7");
    CHECK.same("to the end", x.range(MAX, -1, 0), 2);
    CHECK.same("to the end", x.draftText(), "GET /0, range=2147483647-, if-range=0");
    CHECK.same("of the end", x.range(-1, 1, -1), 3);
    CHECK.same("of the end", x.draftText(), "GET /0, range=-1");
    CHECK.same("none", x.range(-1, -1, 5), 0);
    CHECK.same("none", x.draftText(), "GET /0, if-range=5");
    int[][] wrong = {{-1, 0, -1}, {5, 4, -1}, {1, 0, -1}, {-2, 5, -1}, {-2, -1, -1}, {-2, -2, -1}, {0, -2, -1},
        {-1, -2, -1}, {0, 1, -2}, {-1, -1, -2}, {MIN, MAX, -1}, {MAX, MIN, -1}};
    for (int[] w : wrong) {
      CHECK.wrongArgument(x, "range(" + w[0] + ", " + w[1] + ", " + w[2] + ")", () -> x.range(w[0], w[1], w[2]));
    }
  }

  private static void draftText() {
    CHECK.part("26 draftText");
    Cachefront x = new Cachefront();
    String[] names = {"GET", "HEAD", "PUT", "POST", "DELETE"};
    for (int method = 0; method < 5; method++) {
      x.draft(method, method, 0, 0, 0);
      CHECK.same("METHOD " + method, x.draftText(), names[method] + " /" + method);
    }
    x.draft(2, 10, 1, 1, 1);
    x.wish(600, 0, 1, 7);
    x.match(3, -2);
    x.since(0, -5);
    x.range(2, 3, 4);
    CHECK.same("all", x.draftText(), "PUT /10, lang=1, coding=1, size=1, max-age=600, max-stale=0, min-fresh=1, "
        + "no-cache, no-store, only-if-cached, if-match=3, if-none-match=*, if-modified-since=0, "
        + "if-unmodified-since=-5, range=2-3, if-range=4");
  }

  private static void send() {
    CHECK.part("27 send");
    Cachefront x = new Cachefront();
    x.draft(1, 2, 1, 0, 0);
    x.wish(-1, -1, -1, 4);
    for (int i = 0; i < 60; i++) {
      CHECK.same("its number", x.send(), i);
    }
    CHECK.same("60 are enough", x.send(), -9);
    CHECK.same("REFUSED is counted", x.house(21), 1);
    CHECK.same("REQUESTS", x.house(1), 60);
    CHECK.same("the DRAFT stays", x.draftText(), "HEAD /2, lang=1, only-if-cached");
    CHECK.same("the number that it would have", x.draft(0, 0, 0, 0, 0), 60);
    CHECK.same("get, too", x.get(0, 0, 0), -9);
    CHECK.same("REFUSED is counted", x.house(21), 2);
    CHECK.wrongArgument(x, "exceptions go ahead", () -> x.get(12, 0, 0));
  }

  private static void again() {
    CHECK.part("28 again");
    Cachefront x = new Cachefront();
    x.draft(3, 2, 1, 1, 9);
    x.wish(1, 2, 3, 1);
    x.match(1, 2);
    x.since(3, 4);
    x.range(-1, 5, 6);
    String text = x.draftText();
    x.send();
    x.draft(0, 0, 0, 0, 0);
    CHECK.same("METHOD", x.again(0), 3);
    CHECK.same("all of it", x.draftText(), text);
    x.wish(-1, -1, -1, 0);
    x.range(-1, -1, -1);
    CHECK.same("the REQUEST stays", x.requestText(0), text);
    CHECK.outOfBounds(x, "again(1)", () -> x.again(1));
    CHECK.outOfBounds(x, "again(-1)", () -> x.again(-1));
    CHECK.outOfBounds(x, "again(MAX)", () -> x.again(MAX));
  }

  private static void get() {
    CHECK.part("29 get");
    Cachefront x = new Cachefront();
    x.draft(2, 5, 0, 0, 3);
    CHECK.same("its number", x.get(11, 2, 1), 0);
    CHECK.same("its number", x.get(0, 0, 0), 1);
    CHECK.same("plain", x.requestText(0), "GET /11, lang=2, coding=1");
    CHECK.same("plain", x.requestText(1), "GET /0");
    CHECK.same("the DRAFT stays", x.draftText(), "PUT /5, size=3");
    int[][] wrong = {{-1, 0, 0}, {12, 0, 0}, {0, -1, 0}, {0, 3, 0}, {0, 0, -1}, {0, 0, 2}, {MIN, MAX, 0}};
    for (int[] w : wrong) {
      CHECK.wrongArgument(x, "get", () -> x.get(w[0], w[1], w[2]));
    }
  }

  private static void requestText() {
    CHECK.part("30 requestText");
    Cachefront x = new Cachefront();
    x.draft(4, 1, 0, 1, 0);
    x.match(-2, -1);
    x.send();
    CHECK.same("as the DRAFT", x.requestText(0), "DELETE /1, coding=1, if-match=*");
    x.match(5, 6);
    CHECK.same("as it was SENT", x.requestText(0), "DELETE /1, coding=1, if-match=*");
    CHECK.outOfBounds(x, "requestText(1)", () -> x.requestText(1));
    CHECK.outOfBounds(x, "requestText(-1)", () -> x.requestText(-1));
    CHECK.outOfBounds(x, "requestText(MIN)", () -> x.requestText(MIN));
  }
}
