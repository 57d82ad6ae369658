/** To be TOLD from an ENTRY or answer with a BODY, or what has none: section 6, by each HOW. */
public final class TellEdgeTest {
  private static final Check CHECK = new Check();
  private static final int NEVER = -1000;
  private static final String SIGNS = "dkryfmta";
  /** What is asked, then the status that is due of the SORTS 0 to 3 (206: with first and last place). */
  private static final String[][] ASKED = {
      {"GET /0", "200", "200", "200", "200"},
      {"GET /0, if-none-match=*", "304", "304", "304", "304"},
      {"GET /0, if-none-match=12000", "200", "200", "200", "304"},
      {"GET /0, if-none-match=12001", "200", "200", "304", "200"},
      {"GET /0, if-none-match=0", "200", "200", "200", "200"},
      {"GET /0, if-modified-since=3", "200", "200", "200", "200"},
      {"GET /0, if-modified-since=4", "200", "304", "304", "304"},
      {"GET /0, if-modified-since=900", "200", "304", "304", "304"},
      {"GET /0, if-none-match=7, if-modified-since=900", "200", "200", "200", "200"},
      {"GET /0, range=2-3", "206 2-3", "206 2-3", "206 2-3", "206 2-3"},
      {"GET /0, range=0-", "206 0-7", "206 0-7", "206 0-7", "206 0-7"},
      {"GET /0, range=7-8", "206 7-7", "206 7-7", "206 7-7", "206 7-7"},
      {"GET /0, range=-1", "206 7-7", "206 7-7", "206 7-7", "206 7-7"},
      {"GET /0, range=-9", "206 0-7", "206 0-7", "206 0-7", "206 0-7"},
      {"GET /0, range=8-", "416", "416", "416", "416"},
      {"GET /0, range=8-8", "416", "416", "416", "416"},
      {"GET /0, range=2-3, if-range=12000", "200", "200", "200", "206 2-3"},
      {"GET /0, range=2-3, if-range=12001", "200", "200", "200", "200"},
      {"GET /0, range=2-3, if-range=0", "200", "200", "200", "200"},
      {"GET /0, range=8-, if-range=12000", "200", "200", "200", "416"},
      {"GET /0, range=8-, if-range=12002", "200", "200", "200", "200"},
      {"GET /0, if-range=12002", "200", "200", "200", "200"},
      {"GET /0, if-none-match=*, range=2-3", "304", "304", "304", "304"},
      {"GET /0, if-none-match=12000, range=2-3", "206 2-3", "206 2-3", "206 2-3", "304"},
      {"GET /0, if-modified-since=4, range=2-3", "206 2-3", "304", "304", "304"},
      {"GET /0, if-modified-since=3, range=2-3", "206 2-3", "206 2-3", "206 2-3", "206 2-3"},
      {"GET /0, if-modified-since=3, range=-3", "206 5-7", "206 5-7", "206 5-7", "206 5-7"},
      {"GET /0, if-modified-since=900, range=-3", "206 5-7", "304", "304", "304"},
      {"GET /0, if-none-match=7, range=-3", "206 5-7", "206 5-7", "206 5-7", "206 5-7"},
      {"GET /0, if-none-match=2147483647, range=-2147483647", "206 0-7", "206 0-7", "206 0-7", "206 0-7"},
      {"GET /0, if-none-match=12001, range=-3, if-range=12000", "200", "200", "304", "206 5-7"},
      {"HEAD /0", "200", "200", "200", "200"},
      {"HEAD /0, if-none-match=*", "304", "304", "304", "304"},
      {"HEAD /0, if-modified-since=4", "200", "304", "304", "304"},
      {"HEAD /0, range=2-3", "200", "200", "200", "200"},
      {"HEAD /0, range=8-", "200", "200", "200", "200"}};
  private static final String[] HOWS = {"hit", "fetched", "validated", "let stale", "stale while", "stale if", "passed"};

  public static void main(String[] args) {
    byHow();
    byOrigin();
    emptyBodies();
    withoutBody();
    lastTag();
    bodies();
    CHECK.end();
  }

  /** A front whose next REQUEST for PATH 0, with a wish, is TOLD by that HOW, of what was kept at 7. */
  private static Cachefront ready(int how, int sort) {
    Cachefront x = Talk.alone();
    x.goBy(4);
    x.write(0, 8, sort, 0);
    x.goBy(1);
    x.policy(0, how == 0 || how == 2 ? 50 : 0, -1, -1, 0);
    x.stale(0, how == 4 ? 60 : 0, how == 5 ? 60 : 0);
    if (how != 1 && how != 6) {
      x.get(0, 0, 0);
    }
    x.goBy(2);
    x.weigh(2, how == 5 ? 0 : 2);
    return x;
  }

  private static String wished(String text, int how) {
    String wish = how == 2 ? ", no-cache" : how == 3 ? ", max-stale=2" : how == 6 ? ", no-store" : "";
    int comma = text.indexOf(", ");
    return comma < 0 ? text + wish : text.substring(0, comma) + wish + text.substring(comma);
  }

  private static void byHow() {
    for (int how = 0; how <= 6; how++) {
      for (int sort = 0; sort <= 3; sort++) {
        for (String[] asked : ASKED) {
          CHECK.part("6 to be TOLD: " + HOWS[how] + ", SORT " + sort + ", " + asked[0]);
          Cachefront x = ready(how, sort);
          int before = x.house(18);
          int id = Talk.send(x, wished(asked[0], how));
          x.settle(2);
          boolean isAsTold = how == 1 && asked[sort + 1].equals("416") && !asked[0].contains("if-range");
          if (isAsTold) {
            CHECK.same("as the ORIGIN told it", x.answerText(id), "416 fetched");
          } else {
            told(x, id, how == 2 && sort == 0 ? 1 : how, sort, asked[sort + 1]);
          }
          CHECK.same("SIGNS", x.house(18) - before, x.answerBody(id).length());
          CHECK.same("isTrue", x.isTrue(id), true);
        }
      }
    }
  }

  private static void told(Cachefront x, int id, int how, int sort, String due) {
    int tag = sort == 3 ? 12000 : sort == 2 ? 12001 : -1;
    boolean isPart = due.startsWith("206");
    String range = isPart ? due.substring(4) : "";
    String text = due.substring(0, 3) + " " + HOWS[how] + ", age=2" + (tag == -1 ? "" : ", tag=" + tag)
        + (isPart ? ", range=" + range + "/8" : "");
    CHECK.same("answerText", x.answerText(id), text);
    int first = isPart ? range.charAt(0) - '0' : -1;
    int last = isPart ? range.charAt(2) - '0' : -1;
    boolean isHead = x.requestText(id).startsWith("HEAD");
    String body = isHead ? "" : isPart ? SIGNS.substring(first, last + 1) : due.equals("200") ? SIGNS : "";
    CHECK.same("answerBody", x.answerBody(id), body);
    boolean isNew = how == 1 || how == 2 || how == 6;
    int made = isNew ? x.house(0) - 1 : 6;
    int fresh = x.ofPath(0, 6);
    int[] all = {Integer.parseInt(due.substring(0, 3)), how, 2, fresh, made, sort == 0 ? NEVER : 4, tag, 8, first, last,
        made, x.house(0), 7, isNew ? 2 : -1};
    for (int what = 0; what < all.length; what++) {
      CHECK.same("ofAnswer " + what, x.ofAnswer(id, what), all[what]);
    }
  }

  private static void byOrigin() {
    CHECK.part("6 a PASS: it is TOLD what the ORIGIN told");
    for (int sort = 0; sort <= 3; sort++) {
      for (String[] asked : ASKED) {
        Cachefront x = ready(6, sort);
        String text = asked[0].contains(", ") ? asked[0].replaceFirst(", ", ", if-match=*, ") : asked[0] + ", if-match=*";
        int id = Talk.send(x, text);
        CHECK.same("as it is", Talk.lastFetch(x), text);
        x.settle(2);
        if (asked[sort + 1].equals("416")) {
          CHECK.same("416", x.answerText(id), "416 passed");
          nothing(x, id, 416, 6);
        } else {
          told(x, id, 6, sort, asked[sort + 1]);
        }
      }
    }
  }

  private static void emptyBodies() {
    CHECK.part("3 EMPTY, if T is 0, or the first place is T or more");
    int[] lengths = {0, 1, 40};
    String[] ranges = {"0-0", "0-", "1-1", "1-", "39-39", "39-900", "40-", "40-40", "2147483647-", "0-2147483647",
        "2147483647-2147483647", "-1", "-39", "-40", "-41", "-2147483647"};
    for (int length : lengths) {
      for (String range : ranges) {
        int dash = range.indexOf('-');
        int first = dash == 0 ? Math.max(0, length - Integer.parseInt(range.substring(1))) : Integer.parseInt(range.substring(0, dash));
        boolean isOpen = dash == 0 || dash == range.length() - 1;
        int last = isOpen ? length - 1 : Math.min(length - 1, Integer.parseInt(range.substring(dash + 1)));
        boolean isEmpty = length == 0 || first >= length;
        for (int how : new int[] {0, 1, 6}) {
          Cachefront x = ready(how, 3);
          x.write(0, length, 3, 0);
          x.policy(0, 50, -1, -1, 0);
          x.flush();
          if (how == 0) {
            x.get(0, 0, 0);
            x.goBy(2);
          }
          int id = Talk.send(x, "GET /0" + (how == 6 ? ", no-store" : "") + ", range=" + range);
          x.settle(2);
          String what = "range=" + range + " of " + length + " by " + HOWS[how];
          CHECK.same(what, x.ofAnswer(id, 0), isEmpty ? 416 : 206);
          CHECK.same(what, x.ofAnswer(id, 8), isEmpty ? -1 : first);
          CHECK.same(what, x.ofAnswer(id, 9), isEmpty ? -1 : last);
          CHECK.same(what, x.answerBody(id), isEmpty ? "" : x.body(0, 0, 0).substring(first, last + 1));
        }
      }
    }
  }

  /** AGE and all that is as without a BODY of a DOCUMENT. */
  private static void nothing(Cachefront x, int id, int status, int how) {
    boolean isByOrigin = how == 1 || how == 6;
    int[] due = {status, how, 0, 0, NEVER, NEVER, -1, -1, -1, -1, -1, x.ofAnswer(id, 11), x.ofAnswer(id, 12), isByOrigin ? 2 : -1};
    for (int what = 0; what < due.length; what++) {
      CHECK.same(x.requestText(id) + ": ofAnswer " + what, x.ofAnswer(id, what), due[what]);
    }
    CHECK.same("no BODY", x.answerBody(id), "");
    CHECK.same("isTrue", x.isTrue(id), true);
    String name = how == 7 ? "not kept" : how == 8 ? "fault" : HOWS[how];
    CHECK.same("answerText", x.answerText(id), status + " " + name);
  }

  private static void withoutBody() {
    CHECK.part("6 where there is no BODY of a document: AGE, FRESHNESS are 0, DATE and LAST NEVER, the others NONE");
    Object[][] all = {{"GET /1", 404, 1}, {"HEAD /1", 404, 1}, {"GET /1, range=0-1", 404, 1}, {"GET /1, no-store", 404, 6},
        {"HEAD /1, if-match=*", 404, 6}, {"POST /1", 404, 6}, {"DELETE /1", 404, 6}, {"GET /0, if-match=5", 412, 6},
        {"HEAD /0, if-unmodified-since=0", 412, 6}, {"PUT /1, if-match=*", 412, 6}, {"PUT /0, if-none-match=*", 412, 6},
        {"GET /0, range=8-", 416, 1}, {"GET /0, if-match=*, range=8-", 416, 6}, {"PUT /1, size=5", 201, 6},
        {"PUT /0", 204, 6}, {"POST /0", 204, 6}, {"DELETE /0", 204, 6}, {"GET /0, only-if-cached", 504, 7}};
    for (Object[] one : all) {
      Cachefront x = ready(1, 3);
      int id = Talk.send(x, (String) one[0]);
      x.settle(9);
      nothing(x, id, (Integer) one[1], (Integer) one[2]);
    }
    for (String text : new String[] {"GET /0", "HEAD /0", "GET /0, no-store", "GET /0, if-match=*", "PUT /0", "GET /0, range=0-1"}) {
      for (int status = 502; status <= 504; status++) {
        Cachefront x = ready(1, 3);
        x.weigh(2, status == 503 ? 0 : 1);
        x.mood(2, status == 504 ? 2 : 1);
        int id = Talk.send(x, text);
        x.settle(60);
        nothing(x, id, status, 8);
      }
    }
    CHECK.part("32 NONE if it WAITS (of 12 that TICK)");
    Cachefront x = ready(1, 3);
    Talk.send(x, "GET /0");
    for (int what = 0; what <= 13; what++) {
      CHECK.same("ofAnswer(0, " + what + ")", x.ofAnswer(0, what), what == 12 ? 7 : -1);
    }
    CHECK.same("answerText", x.answerText(0), "waits");
    CHECK.same("answerBody", x.answerBody(0), "");
    CHECK.same("isTrue", x.isTrue(0), true);
    CHECK.same("isTold", x.isTold(0), false);
  }

  /** The TAG that was TOLD last with an answer that has one. */
  private static void lastTag() {
    CHECK.part("8 \"last\" the TAG that was TOLD last with an answer that has one (0 without any)");
    for (int how = 0; how <= 6; how++) {
      for (String text : new String[] {"GET /0", "HEAD /0", "GET /0, if-none-match=*", "GET /0, range=2-3", "GET /0, range=8-, if-range=12000"}) {
        Cachefront x = ready(how, 3);
        CHECK.same("ahead of it", last(x), how == 1 || how == 6 ? 0 : 12000);
        x.write(1, 2, 2, 0);
        x.weigh(2, 2);
        Talk.told(x, "GET /1, no-store");
        CHECK.same("of another one", last(x), 12001);
        x.weigh(2, how == 5 ? 0 : 2);
        int id = Talk.send(x, wished(text, how).replace("max-stale=2", "max-stale=4"));
        x.settle(9);
        CHECK.same("a TAG", x.ofAnswer(id, 6), 12000);
        CHECK.same("of " + text + ", " + HOWS[how], last(x), 12000);
      }
    }
    for (String text : new String[] {"GET /5", "PUT /5", "GET /1, if-match=5", "GET /5, only-if-cached", "GET /3"}) {
      Cachefront x = ready(0, 3);
      x.write(3, 4, 1, 0);
      Talk.told(x, text);
      CHECK.same("without a TAG: " + text, last(x), 12000);
    }
  }

  private static int last(Cachefront x) {
    Talk.type(x, "get / 9 , if-range = last");
    x.toDraft();
    return Integer.parseInt(x.draftText().substring("GET /9, if-range=".length()));
  }

  private static void bodies() {
    CHECK.part("57 SIGNS of all BODIES that were TOLD");
    Cachefront x = Talk.ready();
    Talk.told(x, "GET /0");
    CHECK.same("all", x.house(18), 8);
    Talk.told(x, "HEAD /0");
    Talk.told(x, "GET /0, if-none-match=*");
    Talk.told(x, "GET /0, range=9-");
    Talk.told(x, "GET /1");
    CHECK.same("none", x.house(18), 8);
    Talk.told(x, "GET /0, range=3-5");
    Talk.told(x, "GET /0, no-store, range=-2");
    CHECK.same("parts", x.house(18), 8 + 3 + 2);
  }
}
