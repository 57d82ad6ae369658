/** The boundary cases of section 5, sentence by sentence: ENTRIES, their AGE and FRESHNESS, ROOM. */
public final class StoreEdgeTest {
  private static final Check CHECK = new Check();

  public static void main(String[] args) {
    varyOfEntries();
    fits();
    greatestGot();
    keptLast();
    ages();
    freshness();
    freshOrStale();
    costs();
    room();
    roomAtFirst();
    aboveRoom();
    sameKey();
    used();
    notUsed();
    smallerRoom();
    keepable();
    joined();
    joinedToOthers();
    joinedToBoth();
    heldByRange();
    partsOfAll();
    CHECK.end();
  }

  private static void varyOfEntries() {
    CHECK.part("5 LANG and CODING of the REQUEST: each counts only if it is in VARY, otherwise it is 0");
    for (int vary = 0; vary <= 3; vary++) {
      Cachefront x = Talk.alone();
      x.write(0, 4, 3, vary);
      x.get(0, 2, 1);
      x.settle(9);
      CHECK.same("VARY", x.ofEntry(0, 1), vary);
      CHECK.same("LANG", x.ofEntry(0, 2), vary % 2 == 1 ? 2 : 0);
      CHECK.same("CODING", x.ofEntry(0, 3), vary >= 2 ? 1 : 0);
    }
  }

  private static void fits() {
    CHECK.part("5 it FITS a REQUEST with the same LANG and CODING, as far as these are in VARY");
    for (int vary = 0; vary <= 3; vary++) {
      Cachefront x = Talk.alone();
      x.write(3, 4, 3, vary);
      x.get(3, 1, 1);
      x.settle(9);
      for (int lang = 0; lang <= 2; lang++) {
        for (int coding = 0; coding <= 1; coding++) {
          boolean isSo = (vary % 2 == 0 || lang == 1) && (vary < 2 || coding == 1);
          CHECK.same("of VARY " + vary, x.selected(3, lang, coding), isSo ? 0 : -1);
          CHECK.same("of another PATH", x.selected(2, lang, coding), -1);
        }
      }
    }
  }

  private static void greatestGot() {
    CHECK.part("5 SELECTED: of those that FIT it the one with the greatest GOT");
    Cachefront x = Talk.alone();
    x.write(0, 4, 3, 1);
    x.policy(0, 600, -1, -1, 0);
    x.delay(2, 3);
    x.warm(0, 1, 1);
    x.goBy(2);
    x.delay(2, 1);
    x.goBy(1);
    x.write(0, 4, 3, 2);
    x.offset(2, 50);
    x.warm(0, 2, 1);
    x.goBy(2);
    CHECK.same("came first, was asked for last", x.ofEntry(0, 1), 2);
    CHECK.same("GOT", x.ofEntry(0, 12), 5);
    CHECK.same("DATE", x.ofEntry(0, 6), 54);
    x.goBy(1);
    CHECK.same("came last, was asked for first", x.ofEntry(1, 1), 1);
    CHECK.same("GOT", x.ofEntry(1, 12), 6);
    CHECK.same("SENT", x.ofEntry(1, 11), 0);
    CHECK.same("the greatest GOT", x.selected(0, 1, 1), 1);
    x.get(0, 0, 1);
    CHECK.same("the other one is USED last", x.ofEntry(1, 1), 2);
    CHECK.same("the greatest GOT", x.selected(0, 1, 1), 0);
    CHECK.same("what is TOLD", Talk.atOnce(x, "GET /0, lang=1, coding=1"), "200 hit, age=6, tag=12002 ovcj");
  }

  private static void keptLast() {
    CHECK.part("5 of several the one that was kept last");
    Cachefront x = Talk.alone();
    x.write(0, 4, 3, 1);
    x.policy(0, 600, -1, -1, 0);
    x.delay(2, 2);
    x.warm(0, 0, 0);
    x.goBy(2);
    x.write(0, 4, 3, 2);
    x.delay(2, 1);
    x.warm(0, 1, 0);
    x.goBy(2);
    CHECK.same("GOT", x.ofEntry(0, 12), x.ofEntry(1, 12));
    CHECK.same("VARY of the one kept last", x.ofEntry(x.selected(0, 0, 0), 1), 2);
    x.get(0, 0, 1);
    CHECK.same("the other one was USED last", x.ofEntry(1, 1), 1);
    CHECK.same("VARY of the one kept last", x.ofEntry(x.selected(0, 0, 0), 1), 2);
  }

  private static void ages() {
    CHECK.part("5 AGE: the greater one of GOT - DATE (below 0 is 0) and GOT - SENT, and NOW - GOT more");
    int[] offsets = {-50, -6, -5, -4, -3, -2, 0, 2, 3, 4, 50};
    int[] due = {53, 9, 8, 7, 6, 6, 6, 6, 6, 6, 6};
    for (int i = 0; i < offsets.length; i++) {
      Cachefront x = Talk.ready();
      x.delay(2, 3);
      x.offset(2, offsets[i]);
      x.goBy(10);
      x.get(0, 0, 0);
      x.settle(9);
      CHECK.same("as it comes, by " + offsets[i], x.ofAnswer(0, 2), due[i]);
      CHECK.same("DATE", x.ofAnswer(0, 4), 13 + offsets[i]);
      x.goBy(9);
      CHECK.same("9 TICKS after", x.ofEntry(0, 4), due[i] + 9);
      x.get(0, 0, 0);
      CHECK.same("as it is TOLD", x.ofAnswer(1, 2), due[i] + 9);
      CHECK.same("as the other one was TOLD", x.ofAnswer(0, 2), due[i]);
    }
  }

  private static void freshness() {
    CHECK.part("5 FRESHNESS: SHARED_AGE, MAX_AGE, EXPIRES, each if it is not NONE");
    int[] ages = {-1, 0, 1, 600};
    for (int maxAge : ages) {
      for (int sharedAge : ages) {
        for (int expires : ages) {
          Cachefront x = Talk.alone();
          x.write(0, 2, 0, 0);
          x.policy(0, maxAge, sharedAge, expires, 0);
          x.get(0, 0, 0);
          x.settle(9);
          int due = sharedAge != -1 ? sharedAge : maxAge != -1 ? maxAge : expires != -1 ? expires : 0;
          CHECK.same("of " + maxAge + ", " + sharedAge + ", " + expires, x.ofEntry(0, 5), due);
        }
      }
    }
    CHECK.part("5 otherwise (DATE - LAST) / 10, at least 0 and at most 60; otherwise 0");
    int[] ticks = {1, 9, 10, 11, 19, 20, 99, 100, 589, 590, 599, 600, 601, 609, 610, 700};
    for (int sort = 0; sort <= 1; sort++) {
      for (int tick : ticks) {
        Cachefront x = Talk.alone();
        x.write(0, 2, sort, 0);
        until(x, tick - 1);
        x.get(0, 0, 0);
        x.settle(9);
        CHECK.same("DATE", x.ofAnswer(0, 4), tick);
        CHECK.same("of " + tick, x.ofAnswer(0, 3), sort == 0 ? 0 : Math.min(60, tick / 10));
      }
    }
    for (int offset : new int[] {-50, -11, -10, -9, -2, -1, 0, 8, 9, 18, 19, 50}) {
      Cachefront x = Talk.alone();
      x.write(0, 2, 1, 0);
      x.offset(2, offset);
      x.get(0, 0, 0);
      x.settle(9);
      CHECK.same("by the ORIGIN's clock " + offset, x.ofAnswer(0, 3), Math.max(0, (1 + offset) / 10));
    }
  }

  private static void until(Cachefront x, int tick) {
    while (x.house(0) + 60 <= tick) {
      x.goBy(60);
    }
    if (x.house(0) < tick) {
      x.goBy(tick - x.house(0));
    }
  }

  private static void freshOrStale() {
    CHECK.part("5 it is FRESH, if AGE is below FRESHNESS");
    for (int maxAge : new int[] {0, 1, 2, 3, 4, 5}) {
      Cachefront x = Talk.alone();
      x.write(0, 2, 3, 0);
      x.policy(0, maxAge, -1, -1, 0);
      x.get(0, 0, 0);
      x.goBy(2);
      for (int age = 2; age <= 6; age++) {
        CHECK.same("AGE", x.ofEntry(0, 4), age);
        CHECK.same("FRESH at " + age, x.ofEntry(0, 15), age < maxAge ? 1 : 0);
        Talk.draft(x, "GET /0, only-if-cached");
        CHECK.same("HOW", x.wouldBe(), age < maxAge ? 0 : 7);
        x.goBy(1);
      }
    }
  }

  private static void costs() {
    CHECK.part("5 its COST is 10, and 1 for each place of HELD");
    for (int length : new int[] {0, 1, 39, 40}) {
      Cachefront x = Talk.alone();
      x.write(0, length, 3, 0);
      x.get(0, 0, 0);
      x.settle(9);
      CHECK.same("COST", x.ofEntry(0, 14), 10 + length);
      CHECK.same("COST of all", x.house(6), 10 + length);
      CHECK.same("HELD", x.ofEntry(0, 10), length);
    }
    Cachefront x = Talk.ready();
    Talk.told(x, "GET /0, range=3-5");
    CHECK.same("of a part", x.ofEntry(0, 14), 13);
    CHECK.same("TOTAL", x.ofEntry(0, 9), 8);
  }

  /** ENTRIES of the PATHS 0, 1 and 2, of which each has the COST 15, and a REQUEST for a fourth one. */
  private static Cachefront four(int room) {
    Cachefront x = Talk.alone();
    for (int path = 0; path < 4; path++) {
      x.write(path, 5, 3, 0);
      x.policy(path, 600, -1, -1, 0);
    }
    for (int path = 0; path < 3; path++) {
      x.get(path, 0, 0);
    }
    x.settle(9);
    x.room(room);
    x.get(3, 0, 0);
    x.settle(9);
    return x;
  }

  private static String paths(Cachefront x) {
    StringBuilder text = new StringBuilder();
    for (int k = 0; k < x.entries(); k++) {
      text.append(x.ofEntry(k, 0));
    }
    return text.toString();
  }

  private static void room() {
    CHECK.part("5 as long as there is not enough ROOM, the one that was USED longest ago goes");
    int[] rooms = {600, 61, 60, 59, 46, 45, 44, 31, 30, 29, 16, 15};
    String[] due = {"0123", "0123", "0123", "123", "123", "123", "23", "23", "23", "3", "3", "3"};
    for (int i = 0; i < rooms.length; i++) {
      Cachefront x = four(rooms[i]);
      CHECK.same("ROOM " + rooms[i], paths(x), due[i]);
      CHECK.same("went for want of ROOM", x.house(8), 4 - due[i].length());
      CHECK.same("COST of all", x.house(6), 15 * due[i].length());
    }
  }

  private static void roomAtFirst() {
    CHECK.part("5 ROOM (0 to 600; 300 at first)");
    for (int room : new int[] {300, 600}) {
      Cachefront x = Talk.alone();
      CHECK.same("at first", x.house(7), 300);
      if (room == 600) {
        CHECK.same("none goes", x.room(600), 0);
      }
      for (int path = 0; path < 12; path++) {
        x.write(path, 40, 3, 0);
        x.policy(path, 600, -1, -1, 0);
        x.get(path, 0, 0);
        x.settle(9);
        CHECK.same("each has the COST 50", x.entries(), Math.min(room / 50, path + 1));
        CHECK.same("COST of all", x.house(6), Math.min(room, 50 * (path + 1)));
        CHECK.same("went for want of ROOM", x.house(8), Math.max(0, path + 1 - room / 50));
      }
      CHECK.same("the ones USED last are left", paths(x), room == 300 ? "67891011" : "01234567891011");
    }
  }

  private static void aboveRoom() {
    CHECK.part("5 if its COST is above ROOM, it is not kept");
    for (int room = 13; room <= 16; room++) {
      Cachefront x = Talk.alone();
      x.write(0, 0, 3, 0);
      x.write(1, 5, 3, 0);
      x.policy(0, 600, -1, -1, 0);
      x.get(0, 0, 0);
      x.settle(9);
      x.room(room);
      CHECK.same("there is one already", paths(x), "0");
      x.get(1, 0, 0);
      x.settle(9);
      CHECK.same("ROOM " + room, paths(x), room < 15 ? "0" : "1");
      CHECK.same("went for want of ROOM", x.house(8), room < 15 ? 0 : 1);
      CHECK.same("TOLD nevertheless", x.answerBody(1), x.body(1, 0, 0));
    }
    Cachefront x = Talk.alone();
    x.write(0, 0, 3, 0);
    for (int room : new int[] {0, 9, 10}) {
      x.room(room);
      x.get(0, 0, 0);
      x.settle(9);
      CHECK.same("the smallest one with ROOM " + room, x.entries(), room == 10 ? 1 : 0);
    }
    x.write(1, 40, 3, 0);
    x.room(49);
    x.get(1, 0, 0);
    x.settle(9);
    CHECK.same("the greatest one with ROOM 49", paths(x), "0");
    x.room(50);
    x.get(1, 0, 0);
    x.settle(9);
    CHECK.same("the greatest one with ROOM 50", paths(x), "1");
  }

  private static void sameKey() {
    CHECK.part("5 all ENTRIES with the same PATH, VARY, LANG and CODING go");
    Cachefront x = Talk.alone();
    x.write(0, 5, 3, 3);
    x.policy(0, 600, -1, -1, 0);
    x.get(0, 0, 0);
    x.get(0, 1, 0);
    x.get(0, 0, 1);
    x.settle(9);
    CHECK.same("of three keys", x.entries(), 3);
    x.room(45);
    x.write(0, 5, 3, 3);
    x.warm(0, 1, 0);
    x.goBy(2);
    CHECK.same("one for the other", x.entries(), 3);
    CHECK.same("the new one", x.ofEntry(2, 8), 24002);
    CHECK.same("nothing went for want of ROOM", x.house(8), 0);
    x.write(0, 5, 3, 2);
    x.room(60);
    x.warm(0, 0, 1);
    x.goBy(2);
    CHECK.same("another VARY is another key", x.entries(), 4);
    x.write(0, 6, 3, 2);
    x.room(60);
    x.warm(0, 2, 1);
    x.goBy(2);
    CHECK.same("LANG counts only if it is in VARY", x.ofEntry(x.entries() - 1, 9), 6);
    CHECK.same("one more SIGN, one ENTRY less", x.entries(), 3);
    CHECK.same("for want of ROOM", x.house(8), 1);
    x.room(15);
    CHECK.same("the last one is too great", x.entries(), 0);
    x.write(0, 5, 3, 0);
    x.warm(0, 0, 0);
    x.goBy(2);
    x.write(0, 6, 3, 0);
    x.warm(0, 0, 0);
    x.goBy(2);
    CHECK.same("goes, though the new one is not kept", x.entries(), 0);
    CHECK.same("not for want of ROOM", x.house(8), 4);
  }

  private static void used() {
    CHECK.part("5 it is USED as it is KEPT, and as something is TOLD from it");
    String[] asked = {"GET /0", "HEAD /0", "GET /0, if-none-match=*", "GET /0, range=0-1", "GET /0, range=9-",
        "GET /0, max-stale=600", "GET /0, only-if-cached", "GET /0, if-modified-since=900"};
    for (String text : asked) {
      Cachefront x = four(600);
      CHECK.same("before", paths(x), "0123");
      Talk.atOnce(x, text);
      CHECK.same("HOW 0 " + text, paths(x), "1230");
    }
    int[] flags = {3, 4, 5, 2};
    for (int how : flags) {
      Cachefront x = Talk.alone();
      for (int path = 0; path < 2; path++) {
        x.write(path, 5, 3, 0);
        x.stale(path, how == 4 ? 60 : 0, how == 5 ? 60 : 0);
        x.get(path, 0, 0);
      }
      x.settle(9);
      x.weigh(2, how == 5 ? 0 : 2);
      int id = Talk.send(x, how == 3 ? "GET /0, max-stale=9" : "GET /0");
      x.settle(how == 4 ? 1 : 9);
      CHECK.same("HOW", x.ofAnswer(id, 1), how);
      CHECK.same("USED by HOW " + how, paths(x), "10");
    }
  }

  private static void notUsed() {
    CHECK.part("5 nothing else is USE");
    Cachefront x = four(600);
    x.selected(0, 0, 0);
    Talk.draft(x, "GET /0");
    x.wouldBe();
    x.ofEntry(0, 4);
    x.entryBody(0);
    x.digest();
    x.isSound();
    Talk.told(x, "GET /0, no-store");
    Talk.told(x, "GET /0, if-match=*");
    Talk.told(x, "GET /0, max-age=0, only-if-cached");
    CHECK.same("as before", paths(x), "0123");
    x.mood(2, 1);
    Talk.told(x, "GET /0, max-age=0");
    CHECK.same("a FAULT", paths(x), "0123");
    x.warm(0, 0, 0);
    CHECK.same("to be validated", paths(x), "0123");
    x.goBy(2);
    x.mood(2, 0);
    CHECK.same("a FAULT in the background", paths(x), "0123");
    x.warm(0, 0, 0);
    x.goBy(2);
    CHECK.same("validated", paths(x), "1230");
  }

  private static void smallerRoom() {
    CHECK.part("5 if ROOM becomes smaller, ENTRIES go likewise");
    int[] rooms = {60, 59, 45, 44, 30, 29, 15, 14, 0};
    int[] due = {0, 1, 1, 2, 2, 3, 3, 4, 4};
    for (int i = 0; i < rooms.length; i++) {
      Cachefront x = four(600);
      x.get(0, 0, 0);
      CHECK.same("ROOM " + rooms[i], x.room(rooms[i]), due[i]);
      CHECK.same("the ones USED last stay", paths(x), "1230".substring(due[i]));
      CHECK.same("went for want of ROOM", x.house(8), due[i]);
      CHECK.same("ROOM", x.house(7), rooms[i]);
      CHECK.same("and then none", x.room(rooms[i]), 0);
    }
  }

  private static void keepable() {
    CHECK.part("5 KEEPABLE: whose POLICY has neither NO_STORE nor PRIVATE");
    for (int flags = 0; flags <= 15; flags++) {
      boolean isSo = (flags & 5) == 0;
      Cachefront x = Talk.alone();
      x.write(0, 8, 3, 0);
      x.policy(0, 600, -1, -1, flags);
      x.get(0, 0, 0);
      x.settle(9);
      CHECK.same("a 200 with FLAGS " + flags, x.entries(), isSo ? 1 : 0);
      CHECK.same("TOLD", x.answerText(0), "200 fetched, age=2, tag=12000");
      x.flush();
      CHECK.same("TOLD", Talk.told(x, "GET /0, range=2-3"), "206 fetched, age=2, tag=12000, range=2-3/8 ry");
      CHECK.same("a 206 with FLAGS " + flags, x.entries(), isSo ? 1 : 0);
    }
    CHECK.part("5 a 206 with a strong TAG");
    for (int sort = 0; sort <= 3; sort++) {
      Cachefront x = Talk.alone();
      x.write(0, 8, sort, 0);
      x.policy(0, 600, -1, -1, 0);
      Talk.told(x, "GET /0, range=0-7");
      CHECK.same("TOLD", x.answerBody(0), x.body(0, 0, 0));
      CHECK.same("of SORT " + sort, x.entries(), sort == 3 ? 1 : 0);
      x.get(0, 0, 0);
      x.settle(9);
      CHECK.same("a 200 of SORT " + sort, x.entries(), 1);
    }
    CHECK.part("5 to a fetch that is no PASS");
    for (String text : new String[] {"GET /0, no-store", "GET /0, if-match=*", "GET /0, if-unmodified-since=900",
        "HEAD /0, no-store", "GET /0, if-match=*, range=0-1", "GET /9", "PUT /9", "POST /0"}) {
      Cachefront x = Talk.ready();
      Talk.told(x, text);
      CHECK.same(text, x.entries(), 0);
    }
    Cachefront x = Talk.ready();
    Talk.told(x, "HEAD /0");
    CHECK.same("HEAD is asked as GET", x.entryBody(0), x.body(0, 0, 0));
  }

  private static void joined() {
    CHECK.part("5 to JOIN: HELD of both together; DATE, LAST, POLICY, SENT, GOT, MADE of the new one");
    Cachefront x = Talk.alone();
    x.write(0, 8, 3, 3);
    x.policy(0, 50, -1, -1, 0);
    Talk.told(x, "GET /0, lang=2, coding=1, range=0-2");
    x.goBy(5);
    x.offset(2, -9);
    x.policy(0, 80, -1, -1, 8);
    x.stale(0, 3, 4);
    Talk.told(x, "GET /0, lang=2, coding=1, range=1-4");
    CHECK.same("what is not HELD", Talk.lastFetch(x), "GET /0, lang=2, coding=1, range=3-4, if-range=12010");
    int[] due = {0, 3, 2, 1, 10, 80, -1, 0, 12010, 8, 5, 7, 9, 8, 15, 1};
    for (int what = 0; what <= 15; what++) {
      CHECK.same("ofEntry(0, " + what + ")", x.ofEntry(0, what), due[what]);
    }
    CHECK.same("SIGNS", x.entryBody(0), x.body(0, 2, 1).substring(0, 5) + "...");
    CHECK.same("TOLD", x.answerText(1), "206 fetched, age=10, tag=12010, range=1-4/8");
    CHECK.same("STRICT now", Talk.atOnce(x, "GET /0, lang=2, coding=1, range=0-4"),
        "206 hit, age=10, tag=12010, range=0-4/8 " + x.body(0, 2, 1).substring(0, 5));
  }

  private static void joinedToOthers() {
    CHECK.part("6 to the ENTRY that is SELECTED now, if that has the same strong TAG and TOTAL");
    Cachefront x = Talk.ready();
    Talk.send(x, "GET /0, range=0-1");
    Talk.send(x, "GET /0, range=6-7");
    Talk.send(x, "GET /0, range=1-3");
    x.settle(9);
    String body = x.body(0, 0, 0);
    CHECK.same("three together", x.entryBody(0), body.substring(0, 4) + ".." + body.substring(6));
    CHECK.same("one ENTRY", x.entries(), 1);
    CHECK.same("TOLD from all of it", x.answerText(2), "206 fetched, age=2, tag=12000, range=1-3/8");
    x.touch(0);
    Talk.told(x, "GET /0, no-cache, range=4-5");
    CHECK.same("of another TAG: HELD", x.ofEntry(0, 10), 2);
    CHECK.same("of another TAG", x.ofEntry(0, 8), 12012);
    CHECK.same("the old one is gone", x.entries(), 1);
    Cachefront y = Talk.ready();
    y.write(0, 8, 3, 1);
    Talk.told(y, "GET /0, range=0-1");
    Talk.told(y, "GET /0, lang=1, range=2-3");
    CHECK.same("another LANG is another ENTRY", y.entries(), 2);
  }

  private static void joinedToBoth() {
    CHECK.part("6 JOINED to E, as it was when the FETCH began; then to the ENTRY that is SELECTED now");
    Cachefront x = Talk.ready();
    Talk.told(x, "GET /0, range=0-1");
    x.delay(2, 2);
    Talk.send(x, "GET /0, range=1-3");
    CHECK.same("what E has not", Talk.lastFetch(x), "GET /0, range=2-3, if-range=12000");
    x.flush();
    x.delay(2, 1);
    Talk.send(x, "GET /0, range=6-7");
    x.goBy(2);
    CHECK.same("another one by then", x.entryBody(0), "......ta");
    x.goBy(2);
    CHECK.same("all three together", x.entryBody(0), "dkry..ta");
    CHECK.same("HELD", x.ofEntry(0, 10), 6);
    CHECK.same("TOLD", x.answerBody(1), "kry");
    CHECK.same("SENT of the new one", x.ofEntry(0, 11), 2);
    CHECK.same("GOT of the new one", x.ofEntry(0, 12), 6);
    Cachefront y = Talk.ready();
    Talk.told(y, "GET /0, range=0-1");
    y.delay(2, 2);
    Talk.send(y, "GET /0, range=1-3");
    y.goBy(2);
    y.write(0, 8, 3, 0);
    y.delay(2, 1);
    y.warm(0, 0, 0);
    y.goBy(2);
    CHECK.same("both came at once: the greater number is KEPT last", y.ofEntry(0, 8), 24000);
    CHECK.same("TOLD of the old one", Talk.answer(y, 1), "206 fetched, age=4, tag=12000, range=1-3/8 kry");
  }

  /** Of a 206 only the places of its RANGE are HELD. */
  private static void heldByRange() {
    CHECK.part("5 the places whose SIGNS it has (HELD)");
    String[] ranges = {"0-0", "7-7", "7-900", "3-", "-1", "-3", "-8", "-900", "0-", "2-5"};
    String[] due = {"d.......", ".......a", ".......a", "...yfmta", ".......a", ".....mta", "dkryfmta", "dkryfmta", "dkryfmta",
        "..ryfm.."};
    for (int lang = 0; lang <= 2; lang += 2) {
      for (int i = 0; i < ranges.length; i++) {
        Cachefront x = Talk.ready();
        Talk.told(x, "GET /0" + (lang == 0 ? "" : ", lang=" + lang) + ", range=" + ranges[i]);
        CHECK.same("206 of " + ranges[i], x.ofFetch(0, 10), 206);
        CHECK.same("HELD of " + ranges[i], x.entryBody(0), due[i]);
        int held = due[i].replace(".", "").length();
        CHECK.same("how many", x.ofEntry(0, 10), held);
        CHECK.same("COST", x.house(6), 10 + held);
        CHECK.same("TOLD", x.answerBody(0), due[i].replace(".", ""));
      }
    }
    longest();
  }

  /** A BODY of 40 SIGNS, of which one is missing. */
  private static void longest() {
    for (int missing : new int[] {0, 1, 20, 38, 39}) {
      Cachefront x = Talk.ready();
      x.write(0, 40, 3, 0);
      if (missing > 0) {
        Talk.send(x, "GET /0, range=0-" + (missing - 1));
      }
      if (missing < 39) {
        Talk.send(x, "GET /0, range=" + (missing + 1) + "-39");
      }
      x.settle(9);
      CHECK.same("39 of 40", x.ofEntry(0, 10), 39);
      Talk.draft(x, "GET /0");
      CHECK.same("not all", x.wouldBe(), 1);
      Talk.draft(x, "GET /0, range=" + missing + "-" + missing);
      CHECK.same("not that one", x.wouldBe(), 1);
      Talk.draft(x, "GET /0, range=" + (missing == 39 ? "0-38" : (missing + 1) + "-39"));
      CHECK.same("but those", x.wouldBe(), 0);
      Talk.told(x, "GET /0");
      CHECK.same("that one is asked for", Talk.lastFetch(x), "GET /0, range=" + missing + "-" + missing + ", if-range=24000");
      CHECK.same("all", x.entryBody(0), x.body(0, 0, 0));
      CHECK.same("COST", x.house(6), 50);
    }
  }

  private static void partsOfAll() {
    CHECK.part("5 it is WHOLE, if it has all places");
    Cachefront x = Talk.ready();
    Talk.told(x, "GET /0, range=0-6");
    Talk.draft(x, "GET /0");
    CHECK.same("one is missing", x.wouldBe(), 1);
    Talk.told(x, "GET /0, range=-1");
    Talk.draft(x, "GET /0");
    CHECK.same("all are there", x.wouldBe(), 0);
    CHECK.same("SIGNS", x.entryBody(0), x.body(0, 0, 0));
    Cachefront y = Talk.alone();
    y.write(0, 0, 3, 0);
    y.policy(0, 600, -1, -1, 0);
    CHECK.same("none", Talk.told(y, "GET /0"), "200 fetched, age=2, tag=12000");
    CHECK.same("WHOLE", Talk.atOnce(y, "GET /0"), "200 hit, age=2, tag=12000");
    CHECK.same("EMPTY", Talk.atOnce(y, "GET /0, range=0-"), "416 hit, age=2, tag=12000");
    CHECK.same("EMPTY", Talk.atOnce(y, "GET /0, range=-1"), "416 hit, age=2, tag=12000");
  }
}
