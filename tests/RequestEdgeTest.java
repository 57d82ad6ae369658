/** The boundary cases of section 3 and of promises 21 to 30, sentence by sentence: DRAFTS and REQUESTS. */
public final class RequestEdgeTest {
  private static final Check CHECK = new Check();
  private static final String FULL = "PUT /3, lang=1, coding=1, size=5, max-age=1, max-stale=2, min-fresh=3, no-cache, "
      + "no-store, only-if-cached, if-match=1, if-none-match=2, if-modified-since=3, if-unmodified-since=4, range=1-2, "
      + "if-range=5";

  public static void main(String[] args) {
    newDraft();
    emptyDraft();
    wishes();
    matches();
    sinces();
    ranges();
    eachAlone();
    texts();
    staysAsItIs();
    asItWas();
    plainGets();
    waitsUntilTold();
    CHECK.end();
  }

  private static void newDraft() {
    CHECK.part("1 the DRAFT is a plain GET of the PATH 0");
    Cachefront x = new Cachefront();
    CHECK.same("draftText", x.draftText(), "GET /0");
    CHECK.same("its number", x.send(), 0);
    CHECK.same("as a REQUEST", x.requestText(0), "GET /0");
  }

  private static void emptyDraft() {
    CHECK.part("21 empty then but for these (all wishes, conditions, RANGE gone)");
    for (int method = 0; method <= 4; method++) {
      Cachefront x = new Cachefront();
      Talk.draft(x, FULL);
      CHECK.same("its number", x.draft(method, 11, 2, 1, 40), 0);
      String name = new String[] {"GET", "HEAD", "PUT", "POST", "DELETE"}[method];
      CHECK.same("but for these", x.draftText(), name + " /11, lang=2, coding=1, size=40");
      x.draft(method, 0, 0, 0, 0);
      CHECK.same("each but 0", x.draftText(), name + " /0");
    }
  }

  private static void wishes() {
    CHECK.part("22 how many of these are there (each wish of WISHES counts)");
    int[] ages = {-1, 0, 600};
    for (int wantsAge : ages) {
      for (int letsStale : ages) {
        for (int wantsFresh : ages) {
          Cachefront x = new Cachefront();
          for (int wishes = 0; wishes <= 7; wishes++) {
            int due = (wantsAge >= 0 ? 1 : 0) + (letsStale >= 0 ? 1 : 0) + (wantsFresh >= 0 ? 1 : 0);
            due += wishes % 2 + wishes / 2 % 2 + wishes / 4;
            CHECK.same("wish", x.wish(wantsAge, letsStale, wantsFresh, wishes), due);
            String text = (wantsAge >= 0 ? ", max-age=" + wantsAge : "") + (letsStale >= 0 ? ", max-stale=" + letsStale : "")
                + (wantsFresh >= 0 ? ", min-fresh=" + wantsFresh : "") + (wishes % 2 == 1 ? ", no-cache" : "")
                + (wishes / 2 % 2 == 1 ? ", no-store" : "") + (wishes / 4 == 1 ? ", only-if-cached" : "");
            CHECK.same("draftText", x.draftText(), "GET /0" + text);
          }
        }
      }
    }
  }

  private static void matches() {
    CHECK.part("23 NONE for nothing, -2 for any, or a TAG");
    int[] tags = {-2, -1, 0, 1, 12000, 2147483647};
    for (int ifMatch : tags) {
      for (int ifNone : tags) {
        Cachefront x = new Cachefront();
        CHECK.same("how many", x.match(ifMatch, ifNone), (ifMatch == -1 ? 0 : 1) + (ifNone == -1 ? 0 : 1));
        String text = (ifMatch == -1 ? "" : ", if-match=" + (ifMatch == -2 ? "*" : "" + ifMatch))
            + (ifNone == -1 ? "" : ", if-none-match=" + (ifNone == -2 ? "*" : "" + ifNone));
        CHECK.same("draftText", x.draftText(), "GET /0" + text);
        CHECK.same("wouldBe", x.wouldBe(), ifMatch == -1 ? 1 : 6);
      }
    }
  }

  private static void sinces() {
    CHECK.part("24 NEVER for nothing, or a TICK");
    int[] ticks = {-1000, -999, -1, 0, 1, 2147483647};
    for (int ifSince : ticks) {
      for (int ifUnchanged : ticks) {
        Cachefront x = new Cachefront();
        CHECK.same("how many", x.since(ifSince, ifUnchanged), (ifSince == -1000 ? 0 : 1) + (ifUnchanged == -1000 ? 0 : 1));
        String text = (ifSince == -1000 ? "" : ", if-modified-since=" + ifSince)
            + (ifUnchanged == -1000 ? "" : ", if-unmodified-since=" + ifUnchanged);
        CHECK.same("draftText", x.draftText(), "GET /0" + text);
        CHECK.same("wouldBe", x.wouldBe(), ifUnchanged == -1000 ? 1 : 6);
      }
    }
  }

  private static void ranges() {
    CHECK.part("25 0 without a RANGE, 1 from place to place, 2 to the end, 3 of the end");
    int[][] all = {{-1, -1, 0}, {0, 0, 1}, {0, 1, 1}, {5, 5, 1}, {0, 2147483647, 1}, {2147483647, 2147483647, 1},
        {0, -1, 2}, {2147483647, -1, 2}, {-1, 1, 3}, {-1, 2147483647, 3}};
    for (int[] range : all) {
      for (int ifRange : new int[] {-1, 0, 12000}) {
        Cachefront x = new Cachefront();
        CHECK.same("range", x.range(range[0], range[1], ifRange), range[2]);
        String text = (range[2] == 0 ? "" : ", range=" + (range[0] < 0 ? "" : range[0]) + "-" + (range[1] < 0 ? "" : range[1]))
            + (ifRange < 0 ? "" : ", if-range=" + ifRange);
        CHECK.same("draftText", x.draftText(), "GET /0" + text);
      }
    }
  }

  private static void eachAlone() {
    CHECK.part("22 to 25 the DRAFT has these: the others stay");
    Cachefront x = new Cachefront();
    Talk.draft(x, FULL);
    x.wish(-1, -1, -1, 0);
    String rest = "if-match=1, if-none-match=2, if-modified-since=3, if-unmodified-since=4, range=1-2, if-range=5";
    CHECK.same("no wishes", x.draftText(), "PUT /3, lang=1, coding=1, size=5, " + rest);
    x.match(-1, -1);
    CHECK.same("no TAGS", x.draftText(), "PUT /3, lang=1, coding=1, size=5, if-modified-since=3, if-unmodified-since=4, "
        + "range=1-2, if-range=5");
    x.since(-1000, -1000);
    CHECK.same("no TICKS", x.draftText(), "PUT /3, lang=1, coding=1, size=5, range=1-2, if-range=5");
    x.range(-1, -1, 5);
    CHECK.same("no RANGE", x.draftText(), "PUT /3, lang=1, coding=1, size=5, if-range=5");
    x.range(-1, -1, -1);
    CHECK.same("no IF_RANGE", x.draftText(), "PUT /3, lang=1, coding=1, size=5");
  }

  private static void texts() {
    CHECK.part("26 \"lang=\", \"coding=\", \"size=\" (each but 0)");
    Cachefront x = new Cachefront();
    for (int lang = 0; lang <= 2; lang++) {
      for (int coding = 0; coding <= 1; coding++) {
        for (int size : new int[] {0, 1, 40}) {
          x.draft(2, 11, lang, coding, size);
          CHECK.same("draftText", x.draftText(), "PUT /11" + (lang == 0 ? "" : ", lang=" + lang)
              + (coding == 0 ? "" : ", coding=" + coding) + (size == 0 ? "" : ", size=" + size));
        }
      }
    }
  }

  private static void staysAsItIs() {
    CHECK.part("27 the DRAFT is SENT (and stays as it is)");
    Cachefront x = new Cachefront();
    Talk.draft(x, FULL);
    CHECK.same("its number", x.send(), 0);
    CHECK.same("stays", x.draftText(), FULL);
    CHECK.same("once more", x.send(), 1);
    CHECK.same("the same", x.requestText(1), FULL);
    x.draft(0, 0, 0, 0, 0);
    CHECK.same("the REQUEST stays", x.requestText(0), FULL);
  }

  private static void asItWas() {
    CHECK.part("28 the DRAFT becomes that of a REQUEST");
    Cachefront x = new Cachefront();
    String[] all = {FULL, "GET /0", "HEAD /11, only-if-cached", "POST /1, if-match=*", "DELETE /2, lang=2",
        "GET /4, range=-3", "GET /4, range=3-, if-range=0"};
    int[] methods = {2, 0, 1, 3, 4, 0, 0};
    for (String text : all) {
      Talk.send(x, text);
    }
    for (int id = all.length - 1; id >= 0; id--) {
      CHECK.same("its METHOD", x.again(id), methods[id]);
      CHECK.same("all that it has", x.draftText(), all[id]);
      x.wish(5, 5, 5, 7);
      x.match(7, 7);
      x.since(7, 7);
      x.range(7, 7, 7);
      CHECK.same("the REQUEST stays", x.requestText(id), all[id]);
    }
    CHECK.same("none is SENT", x.house(1), all.length);
  }

  private static void plainGets() {
    CHECK.part("29 a plain GET is SENT (the DRAFT stays)");
    Cachefront x = new Cachefront();
    Talk.draft(x, FULL);
    for (int lang = 0; lang <= 2; lang++) {
      for (int coding = 0; coding <= 1; coding++) {
        int id = x.get(11 - lang, lang, coding);
        CHECK.same("its text", x.requestText(id), "GET /" + (11 - lang) + (lang == 0 ? "" : ", lang=" + lang)
            + (coding == 0 ? "" : ", coding=" + coding));
      }
    }
    CHECK.same("stays", x.draftText(), FULL);
  }

  private static void waitsUntilTold() {
    CHECK.part("3 it WAITS, until it is TOLD");
    Cachefront x = Talk.ready();
    CHECK.same("none", x.waiting(), "");
    for (int i = 0; i < 12; i++) {
      x.get(i % 3, 0, 0);
    }
    CHECK.same("all", x.waiting(), "0 1 2 3 4 5 6 7 8 9 10 11");
    CHECK.same("counted", x.house(2), 12);
    x.goBy(2);
    CHECK.same("those of the PATH 0, and the first ones of 1 and 2, are TOLD", x.waiting(), "4 5 7 8 10 11");
    CHECK.same("counted", x.house(2), 6);
    x.settle(120);
    CHECK.same("none", x.waiting(), "");
    CHECK.same("counted", x.house(2), 0);
  }
}
