import java.util.ArrayList;

/** A front between clients and origins; what it promises stands in ../shared/DOC.md. */
public final class Cachefront {

  private static final int NONE = -1;
  private static final int NEVER = -1000;
  private static final int REFUSED = -9;
  private static final int ANY = -2;

  private static final int ORIGINS = 5;
  private static final int PATHS = 12;
  private static final int WEIGHT_MOST = 4;
  private static final int LENGTH_MOST = 40;
  private static final int SECONDS_MOST = 600;
  private static final int GRACE_MOST = 60;
  private static final int ROOM_MOST = 600;
  private static final int ENTRY_COST = 10;
  private static final int REQUESTS_MOST = 60;
  private static final int ROW_MOST = 60;

  private static final int FAILING = 1;
  private static final int SILENT = 2;

  private static final int BY_LANG = 1;
  private static final int BY_CODING = 2;

  private static final int SORT_DATED = 1;
  private static final int SORT_WEAK = 2;
  private static final int SORT_STRONG = 3;

  private static final int FLAG_NO_STORE = 1;
  private static final int FLAG_NO_CACHE = 2;
  private static final int FLAG_PRIVATE = 4;
  private static final int FLAG_MUST = 8;

  private static final int WISH_NO_CACHE = 1;
  private static final int WISH_NO_STORE = 2;
  private static final int WISH_ONLY_KEPT = 4;

  private static final int GET = 0;
  private static final int HEAD = 1;
  private static final int PUT = 2;
  private static final int POST = 3;
  private static final int DELETE = 4;

  private static final int HIT = 0;
  private static final int FETCHED = 1;
  private static final int VALIDATED = 2;
  private static final int LET_STALE = 3;
  private static final int STALE_WHILE = 4;
  private static final int STALE_IF = 5;
  private static final int PASSED = 6;
  private static final int NOT_KEPT = 7;
  private static final int FAULTY = 8;
  private static final int HOWS = 9;
  /** What wouldBe() tells of a REQUEST that would wait; beginning a FETCH is told like FETCHED. */
  private static final int WOULD_WAIT = 2;

  private static final int WHOLE = 0;
  private static final int VALIDATE = 1;
  private static final int PART = 2;
  private static final int PASS = 3;

  private static final int TRIES_MOST = 3;
  private static final int PATIENCE = 12;

  private static final int OK = 200;
  private static final int CREATED = 201;
  private static final int CHANGED = 204;
  private static final int PARTIAL = 206;
  private static final int NOT_MODIFIED = 304;
  private static final int NOT_FOUND = 404;
  private static final int NOT_AS_ASKED = 412;
  private static final int NO_SUCH_RANGE = 416;
  private static final int BROKEN = 500;
  private static final int FAULT_BROKEN = 502;
  private static final int FAULT_NO_ORIGIN = 503;
  private static final int FAULT_SILENT = 504;

  /** Farther than any place on the ring, and how far an ORIGIN that is OUT is put behind the others. */
  private static final int NOT_MET = 1000000;
  private static final int BEHIND = 100000;
  private static final int RING = 65536;

  /** A TICK after all others. */
  private static final int STILL = 2147483647;

  private static final int FIRST_NUMBER = 1000;
  private static final int LAST_NUMBER = 1999;
  private static final int T_SLASH = 5;
  private static final int T_COMMA = 6;
  private static final int T_EQUALS = 7;
  private static final int T_DASH = 8;
  private static final int T_STAR = 9;
  private static final int T_LANG = 10;
  private static final int T_CODING = 11;
  private static final int T_SIZE = 12;
  private static final int T_MAX_AGE = 13;
  private static final int T_MAX_STALE = 14;
  private static final int T_MIN_FRESH = 15;
  private static final int T_NO_CACHE = 16;
  private static final int T_NO_STORE = 17;
  private static final int T_ONLY_KEPT = 18;
  private static final int T_IF_MATCH = 19;
  private static final int T_IF_NONE = 20;
  private static final int T_IF_SINCE = 21;
  private static final int T_IF_UNCHANGED = 22;
  private static final int T_RANGE = 23;
  private static final int T_IF_RANGE = 24;
  private static final int T_SHARED_AGE = 25;
  private static final int T_EXPIRES = 26;
  private static final int T_PRIVATE = 27;
  private static final int T_MUST = 28;
  private static final int T_STALE_WHILE = 29;
  private static final int T_STALE_IF = 30;
  private static final int T_NOW = 31;
  private static final int T_TAG = 32;
  private static final int T_LAST = 33;

  private final Origin[] origins = new Origin[ORIGINS];
  private final House house = new House();
  private final Store store = new Store();
  private final Row row = new Row();
  private final ArrayList<Request> requests = new ArrayList<Request>();
  private final ArrayList<Fetch> fetches = new ArrayList<Fetch>();
  private final int[] toldBy = new int[HOWS];
  /** All texts are written here, so that a call makes no builder of its own. */
  private final StringBuilder text = new StringBuilder();
  private Ask draft = new Ask(GET, 0, 0, 0, 0);
  private int now = 0;
  /** No FETCH below this number is under way; ticks need not look at those. */
  private int oldest = 0;
  private int waits = 0;
  private int signsTold = 0;
  private int lastTag = 0;
  private int blanks = 0;
  private int knocks = 0;
  private int refusals = 0;

  public Cachefront() {
    for (int o = 0; o < ORIGINS; o++) {
      origins[o] = new Origin(o, o < 3 ? 2 : 0);
    }
  }

  // ---- time, origins, the ring

  public int goBy(int many) throws IllegalArgumentException {
    need(isIn(many, 1, 60));
    for (int i = 0; i < many; i++) {
      tick();
    }
    return now;
  }

  public int settle(int most) throws IllegalArgumentException {
    need(isIn(most, 1, 120));
    int gone = 0;
    while (gone < most && waits > 0) {
      tick();
      gone++;
    }
    return gone;
  }

  public int weigh(int origin, int weight) throws IndexOutOfBoundsException, IllegalArgumentException {
    Origin of = originOf(origin);
    need(isIn(weight, 0, WEIGHT_MOST));
    int before = of.weight;
    of.weight = weight;
    return before;
  }

  public int offset(int origin, int offset) throws IndexOutOfBoundsException, IllegalArgumentException {
    Origin of = originOf(origin);
    need(isIn(offset, -50, 50));
    int before = of.offset;
    of.offset = offset;
    return before;
  }

  public int delay(int origin, int delay) throws IndexOutOfBoundsException, IllegalArgumentException {
    Origin of = originOf(origin);
    need(isIn(delay, 1, 5));
    int before = of.delay;
    of.delay = delay;
    return before;
  }

  public int mood(int origin, int mood) throws IndexOutOfBoundsException, IllegalArgumentException {
    Origin of = originOf(origin);
    need(isIn(mood, 0, SILENT));
    int before = of.mood;
    of.mood = mood;
    return before;
  }

  public int ofOrigin(int origin, int what) throws IndexOutOfBoundsException, IllegalArgumentException {
    Origin of = originOf(origin);
    need(isIn(what, 0, 8));
    switch (what) {
      case 0: return of.weight;
      case 1: return of.offset;
      case 2: return of.delay;
      case 3: return of.mood;
      case 4: return of.fails;
      case 5: return of.isOut(now) ? 1 : 0;
      case 6: return of.tries;
      case 7: return pathsLedBy(of);
      default: return now + of.offset;
    }
  }

  public String order(int path, boolean isRing) throws IndexOutOfBoundsException {
    needPath(path);
    writeOrder(path, isRing);
    return text.toString();
  }

  public int hash(int x) throws IllegalArgumentException {
    need(isIn(x, 0, 9999));
    return hashOf(x);
  }

  public int ifWeighed(int origin, int weight, int path) throws IndexOutOfBoundsException, IllegalArgumentException {
    originOf(origin);
    needPath(path);
    need(isIn(weight, 0, WEIGHT_MOST));
    return firstIf(origin, weight, path);
  }

  // ---- documents

  public int write(int path, int length, int sort, int vary) throws IndexOutOfBoundsException, IllegalArgumentException {
    needPath(path);
    need(isIn(length, 0, LENGTH_MOST) && isIn(sort, 0, SORT_STRONG) && isIn(vary, 0, BY_LANG + BY_CODING));
    return house.changeGreatly(path, length, sort, vary, now);
  }

  public int touch(int path) throws IndexOutOfBoundsException {
    needPath(path);
    Document document = house.at(path);
    return document == null ? refuse() : house.changeSlightly(document, now);
  }

  public int remove(int path) throws IndexOutOfBoundsException {
    needPath(path);
    Document document = house.at(path);
    if (document == null) {
      return refuse();
    }
    house.take(document, now);
    return document.version;
  }

  public int policy(int path, int maxAge, int sharedAge, int expires, int flags) throws IndexOutOfBoundsException, IllegalArgumentException {
    needPath(path);
    need(isIn(maxAge, NONE, SECONDS_MOST) && isIn(sharedAge, NONE, SECONDS_MOST));
    need(isIn(expires, NONE, SECONDS_MOST) && isIn(flags, 0, 15));
    Policy before = house.policyAt(path);
    house.policies[path] = new Policy(maxAge, sharedAge, expires, flags, before.staleWhile, before.staleIf);
    return before.flags;
  }

  public int stale(int path, int staleWhile, int staleIf) throws IndexOutOfBoundsException, IllegalArgumentException {
    needPath(path);
    need(isIn(staleWhile, 0, GRACE_MOST) && isIn(staleIf, 0, GRACE_MOST));
    Policy before = house.policyAt(path);
    house.policies[path] = new Policy(before.maxAge, before.sharedAge, before.expires, before.flags, staleWhile, staleIf);
    return before.staleWhile;
  }

  public int ofPath(int path, int what) throws IndexOutOfBoundsException, IllegalArgumentException {
    needPath(path);
    need(isIn(what, 0, 11));
    Policy policy = house.policyAt(path);
    switch (what) {
      case 6: return policy.maxAge;
      case 7: return policy.sharedAge;
      case 8: return policy.expires;
      case 9: return policy.flags;
      case 10: return policy.staleWhile;
      case 11: return policy.staleIf;
      default: return ofDocument(house.at(path), what);
    }
  }

  public String body(int path, int lang, int coding) throws IndexOutOfBoundsException, IllegalArgumentException {
    needPath(path);
    needVariant(lang, coding);
    Document document = house.at(path);
    if (document == null) {
      return "-";
    }
    text.setLength(0);
    for (int i = 0; i < document.length; i++) {
      text.append(document.signAt(i, document.variant(lang, coding)));
    }
    return text.toString();
  }

  public int tag(int path, int lang, int coding) throws IndexOutOfBoundsException, IllegalArgumentException {
    needPath(path);
    needVariant(lang, coding);
    return tagNow(path, lang, coding);
  }

  public String policyText(int path) throws IndexOutOfBoundsException {
    needPath(path);
    text.setLength(0);
    house.policyAt(path).writeTo(text);
    return text.toString();
  }

  // ---- requests

  public int draft(int method, int path, int lang, int coding, int size) throws IllegalArgumentException {
    need(isIn(method, GET, DELETE) && isIn(path, 0, PATHS - 1));
    needVariant(lang, coding);
    need(isIn(size, 0, LENGTH_MOST));
    draft = new Ask(method, path, lang, coding, size);
    return requests.size();
  }

  public int wish(int wantsAge, int letsStale, int wantsFresh, int wishes) throws IllegalArgumentException {
    need(isIn(wantsAge, NONE, SECONDS_MOST) && isIn(letsStale, NONE, SECONDS_MOST));
    need(isIn(wantsFresh, NONE, SECONDS_MOST) && isIn(wishes, 0, 7));
    draft.wantsAge = wantsAge;
    draft.letsStale = letsStale;
    draft.wantsFresh = wantsFresh;
    draft.wishes = wishes;
    int ages = one(wantsAge != NONE) + one(letsStale != NONE) + one(wantsFresh != NONE);
    return ages + Integer.bitCount(wishes);
  }

  public int match(int ifMatch, int ifNone) throws IllegalArgumentException {
    need(ifMatch >= ANY && ifNone >= ANY);
    draft.ifMatch = ifMatch;
    draft.ifNone = ifNone;
    return one(ifMatch != NONE) + one(ifNone != NONE);
  }

  public int since(int ifSince, int ifUnchanged) throws IllegalArgumentException {
    need(ifSince >= NEVER && ifUnchanged >= NEVER);
    draft.ifSince = ifSince;
    draft.ifUnchanged = ifUnchanged;
    return one(ifSince != NEVER) + one(ifUnchanged != NEVER);
  }

  public int range(int first, int last, int ifRange) throws IllegalArgumentException {
    need(first >= NONE && last >= NONE && ifRange >= NONE);
    need(first == NONE ? last != 0 : last == NONE || last >= first);
    draft.first = first;
    draft.last = last;
    draft.ifRange = ifRange;
    if (first == NONE) {
      return last == NONE ? 0 : 3;
    }
    return last == NONE ? 2 : 1;
  }

  public String draftText() {
    text.setLength(0);
    draft.writeTo(text);
    return text.toString();
  }

  public int send() {
    return requests.size() >= REQUESTS_MOST ? refuse() : submit(draft.copy());
  }

  public int again(int id) throws IndexOutOfBoundsException {
    draft = requestOf(id).ask.copy();
    return draft.method;
  }

  public int get(int path, int lang, int coding) throws IllegalArgumentException {
    need(isIn(path, 0, PATHS - 1));
    needVariant(lang, coding);
    return requests.size() >= REQUESTS_MOST ? refuse() : submit(new Ask(GET, path, lang, coding, 0));
  }

  public String requestText(int id) throws IndexOutOfBoundsException {
    Request request = requestOf(id);
    text.setLength(0);
    request.ask.writeTo(text);
    return text.toString();
  }

  // ---- what is told

  public boolean isTold(int id) throws IndexOutOfBoundsException {
    return requestOf(id).isDone();
  }

  public int ofAnswer(int id, int what) throws IndexOutOfBoundsException, IllegalArgumentException {
    Request request = requestOf(id);
    need(isIn(what, 0, 13));
    return request.detail(what);
  }

  public String answerBody(int id) throws IndexOutOfBoundsException {
    return requestOf(id).told;
  }

  public String answerText(int id) throws IndexOutOfBoundsException {
    Request request = requestOf(id);
    text.setLength(0);
    request.writeAnswerTo(text);
    return text.toString();
  }

  public boolean isTrue(int id) throws IndexOutOfBoundsException {
    Request request = requestOf(id);
    if (request.isDone() && request.how == HIT && request.age >= request.freshness) {
      return false;
    }
    return !request.hasBody() || house.everShowed(request);
  }

  public String waiting() {
    text.setLength(0);
    for (int i = 0; i < requests.size(); i++) {
      if (!requests.get(i).isDone()) {
        writeNext(i);
      }
    }
    return text.toString();
  }

  // ---- the store

  public int room(int room) throws IllegalArgumentException {
    need(isIn(room, 0, ROOM_MOST));
    store.room = room;
    return store.makeRoom(0);
  }

  public int entries() {
    return store.size();
  }

  public int ofEntry(int k, int what) throws IndexOutOfBoundsException, IllegalArgumentException {
    Entry entry = entryOf(k);
    need(isIn(what, 0, 15));
    return entry.detail(what, now);
  }

  public String entryBody(int k) throws IndexOutOfBoundsException {
    Entry entry = entryOf(k);
    text.setLength(0);
    entry.writeTo(text, 0, entry.total - 1);
    return text.toString();
  }

  public int selected(int path, int lang, int coding) throws IndexOutOfBoundsException, IllegalArgumentException {
    needPath(path);
    needVariant(lang, coding);
    return store.placeOf(store.select(path, lang, coding));
  }

  public int wouldBe() {
    return decide(draft);
  }

  public int purge(int path) throws IndexOutOfBoundsException {
    needPath(path);
    return store.forgetPath(path);
  }

  public int flush() {
    return store.forgetAll();
  }

  public int warm(int path, int lang, int coding) throws IndexOutOfBoundsException, IllegalArgumentException {
    needPath(path);
    needVariant(lang, coding);
    if (joinable(path, lang, coding) != null) {
      return refuse();
    }
    Ask plain = new Ask(GET, path, lang, coding, 0);
    Entry entry = store.select(path, lang, coding);
    Fetch fetch = entry == null ? begin(WHOLE, plain, null, null) : begin(VALIDATE, entry.validating(plain), null, entry);
    sendTry(fetch);
    return fetch.number;
  }

  // ---- fetches

  public String underWay() {
    text.setLength(0);
    for (int i = oldest; i < fetches.size(); i++) {
      if (!fetches.get(i).isOver()) {
        writeNext(i);
      }
    }
    return text.toString();
  }

  public int ofFetch(int fetch, int what) throws IndexOutOfBoundsException, IllegalArgumentException {
    Fetch of = fetchOf(fetch);
    need(isIn(what, 0, 10));
    return what == 8 ? waitingFor(of) : of.detail(what);
  }

  public String fetchText(int fetch) throws IndexOutOfBoundsException {
    Fetch of = fetchOf(fetch);
    text.setLength(0);
    of.ask.writeTo(text);
    return text.toString();
  }

  // ---- texts

  public int type(int a, int b, int c, int d, int e) throws IllegalArgumentException, IllegalStateException {
    need(isTyped(a) && isTyped(b) && isTyped(c) && isTyped(d) && isTyped(e));
    int more = one(a != NONE) + one(b != NONE) + one(c != NONE) + one(d != NONE) + one(e != NONE);
    if (row.count + more > ROW_MOST) {
      throw new IllegalStateException("the row would have too many tokens");
    }
    row.push(a);
    row.push(b);
    row.push(c);
    row.push(d);
    row.push(e);
    return row.count;
  }

  public int cut(int many) throws IllegalArgumentException {
    need(isIn(many, 1, ROW_MOST));
    row.drop(many);
    return row.count;
  }

  public String typed() {
    text.setLength(0);
    row.writeTo(text);
    return text.toString();
  }

  public int fault(boolean isPolicy, boolean isPlace) {
    row.examine(isPolicy);
    return isPlace ? row.faultPlace : row.faultKind;
  }

  public int toDraft() {
    row.examine(false);
    if (row.faultKind != 0) {
      return refuse();
    }
    draft = row.plainAsk();
    int tag = tagNow(draft.path, draft.lang, draft.coding);
    row.putConditions(draft, tag == NONE ? 0 : tag, lastTag, now);
    return requests.size();
  }

  public int toPolicy(int path) throws IndexOutOfBoundsException {
    needPath(path);
    row.examine(true);
    if (row.faultKind != 0) {
      return refuse();
    }
    house.policies[path] = row.asPolicy();
    return row.items();
  }

  // ---- the house

  public int blank() {
    blanks++;
    return REFUSED;
  }

  public int knock() {
    knocks++;
    return knocks;
  }

  public int house(int what) throws IllegalArgumentException {
    need(isIn(what, 0, 21));
    switch (what) {
      case 0: return now;
      case 1: return requests.size();
      case 2: return waits;
      case 3: return fetches.size();
      case 4: return countUnderWay();
      case 5: return store.size();
      case 6: return store.cost();
      case 7: return store.room;
      case 8: return store.crowdedOut;
      case 18: return signsTold;
      case 19: return blanks;
      case 20: return knocks;
      case 21: return refusals;
      default: return toldBy[what - 9];
    }
  }

  public boolean isSound() {
    for (int i = 0; i < requests.size(); i++) {
      if (!isTrue(i)) {
        return false;
      }
    }
    return store.isOrderly() && areFetchesSound() && isRingSound();
  }

  public long digest() {
    long d = 7656;
    for (int what = 0; what <= 21; what++) {
      d = d * 31 + house(what);
    }
    d = mixOrigins(d);
    d = mixPaths(d);
    text.setLength(0);
    draft.writeTo(text);
    d = mixText(d);
    text.setLength(0);
    row.writeTo(text);
    d = mixText(d);
    d = mixFaults(d);
    d = mixRequests(d);
    d = mixEntries(d);
    d = mixFetches(d);
    return d * 31 + one(isSound());
  }

  // ---- what the methods of the face test

  private static boolean isIn(int x, int least, int most) {
    return x >= least && x <= most;
  }

  private static int one(boolean is) {
    return is ? 1 : 0;
  }

  private static void need(boolean is) {
    if (!is) {
      throw new IllegalArgumentException("out of its bounds");
    }
  }

  private static void needVariant(int lang, int coding) {
    need(isIn(lang, 0, 2) && isIn(coding, 0, 1));
  }

  private static void needPath(int path) {
    if (!isIn(path, 0, PATHS - 1)) {
      throw new IndexOutOfBoundsException("no such path");
    }
  }

  private Origin originOf(int origin) {
    if (!isIn(origin, 0, ORIGINS - 1)) {
      throw new IndexOutOfBoundsException("no such origin");
    }
    return origins[origin];
  }

  private Request requestOf(int id) {
    if (!isIn(id, 0, requests.size() - 1)) {
      throw new IndexOutOfBoundsException("no such request");
    }
    return requests.get(id);
  }

  private Entry entryOf(int k) {
    if (!isIn(k, 0, store.size() - 1)) {
      throw new IndexOutOfBoundsException("no such entry");
    }
    return store.entries.get(k);
  }

  private Fetch fetchOf(int fetch) {
    if (!isIn(fetch, 0, fetches.size() - 1)) {
      throw new IndexOutOfBoundsException("no such fetch");
    }
    return fetches.get(fetch);
  }

  private static boolean isTyped(int token) {
    return isIn(token, NONE, T_LAST) || isIn(token, FIRST_NUMBER, LAST_NUMBER);
  }

  private int refuse() {
    refusals++;
    return REFUSED;
  }

  // ---- the ring

  private static int hashOf(int x) {
    int a = Math.floorMod(x * 25173 + 13849, RING);
    return ((a + a / 128) * 9001 + 7) % RING;
  }

  /** The first one in ORDER (or RING ORDER) that is not in a set; null without any. */
  private Origin firstOf(int path, int without, boolean isRing) {
    Origin first = null;
    int least = NOT_MET;
    for (int o = 0; o < ORIGINS; o++) {
      Origin origin = origins[o];
      int way = origin.wayFrom(path, origin.weight);
      if (!isRing && way < NOT_MET && origin.isOut(now)) {
        way += BEHIND;
      }
      if ((without >> o & 1) == 0 && way < least) {
        least = way;
        first = origin;
      }
    }
    return first;
  }

  private int firstIf(int other, int weight, int path) {
    int first = NONE;
    int least = NOT_MET;
    for (int o = 0; o < ORIGINS; o++) {
      int way = origins[o].wayFrom(path, o == other ? weight : origins[o].weight);
      if (way < least) {
        least = way;
        first = o;
      }
    }
    return first;
  }

  private int pathsLedBy(Origin origin) {
    int paths = 0;
    for (int path = 0; path < PATHS; path++) {
      paths += one(firstOf(path, 0, true) == origin);
    }
    return paths;
  }

  private void writeOrder(int path, boolean isRing) {
    text.setLength(0);
    int met = 0;
    for (int i = 0; i < ORIGINS; i++) {
      Origin next = firstOf(path, met, isRing);
      if (next != null) {
        writeNext(next.number);
        met |= 1 << next.number;
      }
    }
  }

  private void writeNext(int number) {
    if (text.length() > 0) {
      text.append(' ');
    }
    text.append(number);
  }

  // ---- documents and tags

  private static int ofDocument(Document document, int what) {
    if (document == null) {
      return NONE;
    }
    switch (what) {
      case 0: return document.length;
      case 1: return document.sort;
      case 2: return document.vary;
      case 3: return document.version;
      case 4: return document.touches;
      default: return document.modified;
    }
  }

  private int tagNow(int path, int lang, int coding) {
    Document document = house.at(path);
    return document == null ? NONE : document.tagFor(lang, coding);
  }

  private static boolean isStrong(int tag) {
    return tag >= 0 && tag % 2 == 0;
  }

  private static boolean isWeak(int tag) {
    return tag > 0 && tag % 2 == 1;
  }

  /** IF_RANGE and IF_MATCH hold by strong TAGS alone. */
  private static boolean isSameStrong(int asked, int tag) {
    return asked == tag && tag >= 0 && tag % 2 == 0;
  }

  private static char sign(int place, int path, int version, int variant, int capitals) {
    int letter = Math.floorMod(7 * place + 3 * version + 5 * path + 11 * variant, 26);
    return (char) ((place < capitals ? 'A' : 'a') + letter);
  }

  private static char small(char sign) {
    return sign >= 'A' && sign <= 'Z' ? (char) (sign - 'A' + 'a') : sign;
  }

  // ---- requests come

  private int submit(Ask ask) {
    Request request = new Request(requests.size(), ask, now);
    requests.add(request);
    waits++;
    come(request);
    return request.number;
  }

  /** How a REQUEST would go on: HOW it is TOLD at once, or FETCHED, WOULD_WAIT, PASSED. */
  private int decide(Ask ask) {
    if (ask.isPass()) {
      return PASSED;
    }
    Entry entry = store.select(ask.path, ask.lang, ask.coding);
    if (entry != null && entry.hasWanted(ask)) {
      int how = entry.readyFor(ask, now);
      if (how != NONE) {
        return how;
      }
    }
    if (ask.hasWish(WISH_ONLY_KEPT)) {
      return NOT_KEPT;
    }
    return joinable(ask.path, ask.lang, ask.coding) == null ? FETCHED : WOULD_WAIT;
  }

  /** A REQUEST comes, or is looked at again; a FETCH without any ORIGIN ends as it begins. */
  private void come(Request request) {
    Ask ask = request.ask;
    Entry entry = store.select(ask.path, ask.lang, ask.coding);
    int how = decide(ask);
    Fetch fetch = null;
    switch (how) {
      case PASSED:
        fetch = begin(PASS, ask.isConditional() ? ask : ask.plain(), request, null);
        break;
      case NOT_KEPT:
        tell(request, FAULT_SILENT, NOT_KEPT, null, null);
        break;
      case WOULD_WAIT:
        request.waitsFor = joinable(ask.path, ask.lang, ask.coding);
        break;
      case FETCHED:
        fetch = beginFor(request, entry);
        break;
      default:
        tellKept(request, entry, how);
        fetch = how == STALE_WHILE ? beginBehind(ask, entry) : null;
        break;
    }
    if (fetch != null) {
      sendTry(fetch);
      if (fetch.isOver() && fetch.request != null) {
        tellFault(request, fetch);
      }
    }
  }

  /** The answer is old already, so that the next one shall be newer. */
  private Fetch beginBehind(Ask ask, Entry entry) {
    if (entry == null || joinable(ask.path, ask.lang, ask.coding) != null) {
      return null;
    }
    return begin(VALIDATE, entry.validating(ask.plain()), null, entry);
  }

  private Fetch beginFor(Request request, Entry entry) {
    Ask ask = request.ask;
    Ask plain = ask.plain();
    if (entry != null && entry.hasWanted(ask)) {
      return begin(VALIDATE, entry.validating(plain), request, entry);
    }
    if (entry != null && entry.mayGrow(now) && !ask.hasWish(WISH_NO_CACHE) && entry.putGap(ask, plain)) {
      return begin(PART, plain, request, entry);
    }
    if (ask.wantsPart()) {
      plain.first = ask.first;
      plain.last = ask.last;
      return begin(PART, plain, request, null);
    }
    return begin(WHOLE, plain, request, null);
  }

  private Fetch joinable(int path, int lang, int coding) {
    for (int i = oldest; i < fetches.size(); i++) {
      Fetch fetch = fetches.get(i);
      if (fetch.isJoinable() && fetch.isFor(path, lang, coding)) {
        return fetch;
      }
    }
    return null;
  }

  private Fetch begin(int kind, Ask ask, Request request, Entry base) {
    Fetch fetch = new Fetch(fetches.size(), kind, ask, request, base);
    fetches.add(fetch);
    return fetch;
  }

  private void sendTry(Fetch fetch) {
    Origin next = fetch.mayTry() ? firstOf(fetch.ask.path, fetch.tried, false) : null;
    if (next == null) {
      fetch.ended = fetch.faultNow();
    } else {
      fetch.sendTo(next, now);
    }
  }

  // ---- ticks

  private void tick() {
    now++;
    int known = fetches.size();
    for (int i = oldest; i < known; i++) {
      arrive(fetches.get(i));
    }
    for (int i = oldest; i < known; i++) {
      Fetch fetch = fetches.get(i);
      if (!fetch.isOver() && fetch.comes == now) {
        comeBack(fetch);
        if (fetch.isOver()) {
          finish(fetch);
          goOn(fetch);
        }
      }
    }
    while (oldest < known && fetches.get(oldest).isOver()) {
      oldest++;
    }
  }

  private void arrive(Fetch fetch) {
    Origin origin = fetch.origin;
    if (fetch.isOver() || fetch.arrives != now || origin == null) {
      return;
    }
    if (origin.mood == SILENT) {
      fetch.comes = fetch.sent + PATIENCE;
    } else if (origin.mood == FAILING) {
      fetch.status = BROKEN;
    } else {
      fetch.status = house.answer(fetch.ask, now);
      fetch.answer = house.whatItTells(fetch.ask, fetch.status, now + origin.offset, now);
    }
  }

  private void comeBack(Fetch fetch) {
    Origin origin = fetch.origin;
    boolean isFail = fetch.status == 0 || fetch.status == BROKEN;
    if (origin != null) {
      origin.fails = isFail ? origin.fails + 1 : 0;
      origin.failed = isFail ? now : origin.failed;
    }
    if (isFail) {
      sendTry(fetch);
      return;
    }
    fetch.ended = fetch.status;
    if (fetch.answer != null) {
      fetch.answer.sent = fetch.sent;
      fetch.answer.got = now;
    }
  }

  private void finish(Fetch fetch) {
    if (fetch.isFault()) {
      if (fetch.request != null) {
        tellFault(fetch.request, fetch);
      }
    } else if (fetch.kind == PASS) {
      finishPass(fetch);
    } else {
      Entry entry = fetch.status == PARTIAL ? takeInPart(fetch) : takeIn(fetch);
      if (fetch.request != null) {
        tellFetched(fetch.request, fetch, entry);
      }
    }
  }

  /** A REQUEST that is looked at again can not come to wait for this FETCH, as it is over. */
  private void goOn(Fetch fetch) {
    for (int i = 0; i < requests.size() && i < REQUESTS_MOST; i++) {
      Request request = requests.get(i);
      if (request.waitsFor == fetch) {
        request.waitsFor = null;
        if (fetch.isFault()) {
          tellFault(request, fetch);
        } else {
          come(request);
        }
      }
    }
  }

  /** What the store makes of an answer: that of which its REQUEST is TOLD, or null. */
  private Entry takeIn(Fetch fetch) {
    Entry answer = fetch.answer;
    Ask ask = fetch.ask;
    if (answer == null) {
      if (fetch.status == NOT_FOUND) {
        store.forgetFitting(ask);
      }
      return null;
    }
    boolean isRenewed = fetch.status == NOT_MODIFIED && fetch.base != null;
    Entry entry = isRenewed ? fetch.base.renewed(answer) : answer;
    if (entry.mayBeKept()) {
      store.keep(entry);
    } else {
      store.forgetFitting(ask);
    }
    return entry;
  }

  private Entry takeInPart(Fetch fetch) {
    Entry answer = fetch.answer;
    Ask ask = fetch.ask;
    if (answer == null) {
      return null;
    }
    Entry entry = answer;
    if (ask.ifRange != NONE && fetch.base != null && fetch.base.canJoin(entry)) {
      entry = fetch.base.joined(entry);
    }
    if (answer.mayBeKept() && isStrong(answer.tag)) {
      Entry there = store.select(ask.path, ask.lang, ask.coding);
      if (there != null && there.canJoin(entry)) {
        entry = there.joined(entry);
      }
      store.keep(entry);
    }
    return entry;
  }

  // ---- telling

  private void tellKept(Request request, Entry entry, int how) {
    if (entry != null) {
      store.use(entry);
      tell(request, request.ask.statusFor(entry.tag, entry.last, entry.total), how, entry, null);
    }
  }

  private void tellFetched(Request request, Fetch fetch, Entry entry) {
    int how = fetch.status == NOT_MODIFIED ? VALIDATED : FETCHED;
    int status = entry == null ? fetch.status : request.ask.statusFor(entry.tag, entry.last, entry.total);
    tell(request, status, how, entry, fetch.origin);
  }

  private void tellFault(Request request, Fetch fetch) {
    Ask ask = request.ask;
    Entry entry = fetch.kind == PASS ? null : store.select(ask.path, ask.lang, ask.coding);
    if (entry != null && entry.hasWanted(ask) && entry.helpsOut(ask, now)) {
      store.use(entry);
      tell(request, ask.statusFor(entry.tag, entry.last, entry.total), STALE_IF, entry, null);
    } else {
      tell(request, fetch.ended, FAULTY, null, null);
    }
  }

  private void finishPass(Fetch fetch) {
    Request request = fetch.request;
    if (request == null) {
      return;
    }
    Ask ask = request.ask;
    Entry answer = fetch.answer;
    boolean isByFront = !ask.isConditional() && answer != null;
    int status = isByFront ? ask.statusFor(answer.tag, answer.last, answer.total) : fetch.status;
    tell(request, status, PASSED, answer, fetch.origin);
    if (!ask.isReading() && isIn(fetch.status, 200, 299)) {
      store.forgetPath(ask.path);
    }
  }

  private void tell(Request request, int status, int how, Entry from, Origin origin) {
    request.status = status;
    request.how = how;
    request.toldAt = now;
    request.waitsFor = null;
    request.origin = origin == null ? NONE : origin.number;
    waits--;
    if (isIn(how, 0, HOWS - 1)) {
      toldBy[how]++;
    }
    if (from == null) {
      return;
    }
    request.age = from.age(now);
    request.freshness = from.freshness();
    request.putDetails(from);
    if (request.hasBody()) {
      text.setLength(0);
      from.writeTo(text, request.firstSign(), request.lastSign());
      request.told = text.toString();
      signsTold += request.told.length();
    }
    if (from.tag != NONE) {
      lastTag = from.tag;
    }
  }

  // ---- counting and testing

  private int waitingFor(Fetch fetch) {
    if (fetch.isOver()) {
      return 0;
    }
    int many = 0;
    for (int i = 0; i < requests.size(); i++) {
      many += one(requests.get(i).waitsFor == fetch);
    }
    return many;
  }

  private int countUnderWay() {
    int many = 0;
    for (int i = oldest; i < fetches.size(); i++) {
      many += one(!fetches.get(i).isOver());
    }
    return many;
  }

  private boolean areFetchesSound() {
    for (int i = oldest; i < fetches.size(); i++) {
      Fetch fetch = fetches.get(i);
      if (fetch.isJoinable() && joinable(fetch.ask.path, fetch.ask.lang, fetch.ask.coding) != fetch) {
        return false;
      }
    }
    return true;
  }

  private boolean isRingSound() {
    for (int path = 0; path < PATHS; path++) {
      Origin leader = firstOf(path, 0, true);
      int first = leader == null ? NONE : leader.number;
      for (int o = 0; o < ORIGINS; o++) {
        for (int weight = 0; weight <= WEIGHT_MOST; weight++) {
          int then = firstIf(o, weight, path);
          if (then != first && then != o && first != o) {
            return false;
          }
        }
      }
    }
    return true;
  }

  // ---- the checksum

  private long mixText(long before) {
    long d = before;
    for (int i = 0; i < text.length(); i++) {
      d = d * 31 + text.charAt(i);
    }
    return d;
  }

  private long mixOrigins(long before) {
    long d = before;
    for (int o = 0; o < ORIGINS; o++) {
      for (int what = 0; what <= 8; what++) {
        d = d * 31 + ofOrigin(o, what);
      }
    }
    return d;
  }

  private long mixPaths(long before) {
    long d = before;
    for (int path = 0; path < PATHS; path++) {
      for (int what = 0; what <= 11; what++) {
        d = d * 31 + ofPath(path, what);
      }
      writeOrder(path, false);
      d = mixText(d);
      writeOrder(path, true);
      d = mixText(d);
    }
    return d;
  }

  private long mixFaults(long before) {
    long d = before;
    row.examine(false);
    d = (d * 31 + row.faultPlace) * 31 + row.faultKind;
    row.examine(true);
    return (d * 31 + row.faultPlace) * 31 + row.faultKind;
  }

  private long mixRequests(long before) {
    long d = before;
    for (int i = 0; i < requests.size(); i++) {
      Request request = requests.get(i);
      for (int what = 0; what <= 13; what++) {
        d = d * 31 + request.detail(what);
      }
      for (int k = 0; k < request.told.length(); k++) {
        d = d * 31 + request.told.charAt(k);
      }
    }
    return d;
  }

  private long mixEntries(long before) {
    long d = before;
    for (int i = 0; i < store.size(); i++) {
      Entry entry = store.entries.get(i);
      for (int what = 0; what <= 15; what++) {
        d = d * 31 + entry.detail(what, now);
      }
      text.setLength(0);
      entry.writeTo(text, 0, entry.total - 1);
      d = mixText(d);
    }
    return d;
  }

  private long mixFetches(long before) {
    long d = before;
    for (int i = 0; i < fetches.size(); i++) {
      for (int what = 0; what <= 10; what++) {
        d = d * 31 + ofFetch(i, what);
      }
    }
    return d;
  }

  /** One of those behind the front, with the ways on the ring from each PATH to it. */
  private static final class Origin {
    final int number;
    int weight;
    int offset = 0;
    int delay = 1;
    int mood = 0;
    int fails = 0;
    int failed = 0;
    int tries = 0;
    /** By PATH and WEIGHT: places on the ring never change, so that they are looked up once. */
    private final int[] ways = new int[PATHS * (WEIGHT_MOST + 1)];

    Origin(int number, int weight) {
      this.number = number;
      this.weight = weight;
      for (int path = 0; path < PATHS; path++) {
        int key = hashOf(5000 + 37 * path);
        int least = NOT_MET;
        for (int w = 0; w <= WEIGHT_MOST; w++) {
          ways[path * (WEIGHT_MOST + 1) + w] = least;
          for (int k = 4 * w; k < 4 * w + 4; k++) {
            least = Math.min(least, Math.floorMod(hashOf(100 * number + k) - key, RING));
          }
        }
      }
    }

    /** How far upward from the KEY of a PATH it is met first; NOT_MET if it is not on the ring. */
    int wayFrom(int path, int weight) {
      int at = path * (WEIGHT_MOST + 1) + weight;
      return at >= 0 && at < ways.length ? ways[at] : NOT_MET;
    }

    boolean isOut(int now) {
      return fails >= 3 && now - failed < 30;
    }
  }

  /** It never changes, so that an ENTRY can hold the one that it was told. */
  private static final class Policy {
    final int maxAge;
    final int sharedAge;
    final int expires;
    final int flags;
    final int staleWhile;
    final int staleIf;

    Policy(int maxAge, int sharedAge, int expires, int flags, int staleWhile, int staleIf) {
      this.maxAge = maxAge;
      this.sharedAge = sharedAge;
      this.expires = expires;
      this.flags = flags;
      this.staleWhile = staleWhile;
      this.staleIf = staleIf;
    }

    boolean has(int flag) {
      return (flags & flag) != 0;
    }

    void writeTo(StringBuilder to) {
      writeNumber(to, "max-age=", maxAge, NONE);
      writeNumber(to, "s-maxage=", sharedAge, NONE);
      writeNumber(to, "expires=", expires, NONE);
      writeFlag(to, "no-store", FLAG_NO_STORE);
      writeFlag(to, "no-cache", FLAG_NO_CACHE);
      writeFlag(to, "private", FLAG_PRIVATE);
      writeFlag(to, "must-revalidate", FLAG_MUST);
      writeNumber(to, "stale-while=", staleWhile, 0);
      writeNumber(to, "stale-if=", staleIf, 0);
    }

    private static void writeNumber(StringBuilder to, String name, int number, int absent) {
      if (number != absent) {
        writeName(to, name);
        to.append(number);
      }
    }

    private void writeFlag(StringBuilder to, String name, int flag) {
      if (has(flag)) {
        writeName(to, name);
      }
    }

    private static void writeName(StringBuilder to, String name) {
      if (to.length() > 0) {
        to.append(", ");
      }
      to.append(name);
    }
  }

  /** A DOCUMENT as it was from one change to the next; those of a PATH hang together, for proofs. */
  private static final class Document {
    final int path;
    final int version;
    final int touches;
    final int modified;
    final Document before;
    int length = 0;
    int sort = 0;
    int vary = 0;
    /** The TICK at which it was changed or went. */
    int until = STILL;

    Document(int path, int version, int touches, int modified, Document before) {
      this.path = path;
      this.version = version;
      this.touches = touches;
      this.modified = modified;
      this.before = before;
    }

    int variant(int lang, int coding) {
      return ((vary & BY_LANG) != 0 ? lang : 0) + 3 * ((vary & BY_CODING) != 0 ? coding : 0);
    }

    int tagFor(int lang, int coding) {
      if (sort == SORT_STRONG) {
        return ((version * 1000 + touches) * 6 + variant(lang, coding)) * 2;
      }
      return sort == SORT_WEAK ? (version * 6000 + variant(lang, coding)) * 2 + 1 : NONE;
    }

    int date() {
      return sort >= SORT_DATED ? modified : NEVER;
    }

    char signAt(int place, int variant) {
      int capitals = length < 0 ? 0 : touches % (length + 1);
      return sign(place, path, version, variant, capitals);
    }

    /** Whether its BODY for that REQUEST has what that was TOLD. */
    boolean shows(Request request) {
      int first = request.firstSign();
      int many = request.told.length();
      if (length != (request.status == PARTIAL ? request.total : many)) {
        return false;
      }
      int variant = variant(request.ask.lang, request.ask.coding);
      boolean isLoose = isWeak(request.tag);
      for (int i = 0; i < many; i++) {
        char due = signAt(first + i, variant);
        char told = request.told.charAt(i);
        if (isLoose ? small(due) != small(told) : due != told) {
          return false;
        }
      }
      return true;
    }
  }

  /** What is behind all ORIGINS. */
  private static final class House {
    private final Document[] here = new Document[PATHS];
    /** The newest of all times, whether it is still there or not. */
    private final Document[] newest = new Document[PATHS];
    final Policy[] policies = new Policy[PATHS];
    private final Policy empty = new Policy(NONE, NONE, NONE, 0, 0, 0);

    Document at(int path) {
      return path >= 0 && path < PATHS ? here[path] : null;
    }

    Policy policyAt(int path) {
      Policy policy = path >= 0 && path < PATHS ? policies[path] : null;
      return policy == null ? empty : policy;
    }

    int changeGreatly(int path, int length, int sort, int vary, int now) {
      if (path < 0 || path >= PATHS) {
        return NONE;
      }
      Document before = newest[path];
      Document next = new Document(path, before == null ? 1 : before.version + 1, 0, now, before);
      next.length = length;
      next.sort = sort;
      next.vary = vary;
      put(next, now);
      return next.version;
    }

    int changeSlightly(Document document, int now) {
      Document next = new Document(document.path, document.version, document.touches + 1, now, document);
      next.length = document.length;
      next.sort = document.sort;
      next.vary = document.vary;
      put(next, now);
      return next.touches;
    }

    private void put(Document next, int now) {
      int path = next.path;
      if (path >= 0 && path < PATHS) {
        if (here[path] != null) {
          here[path].until = now;
        }
        here[path] = next;
        newest[path] = next;
      }
    }

    void take(Document document, int now) {
      int path = document.path;
      if (path >= 0 && path < PATHS) {
        document.until = now;
        here[path] = null;
      }
    }

    /** Does what an ORIGIN that is WELL is asked for, and tells the status. */
    int answer(Ask ask, int now) {
      Document document = at(ask.path);
      if (document == null) {
        if (ask.method != PUT) {
          return NOT_FOUND;
        }
        if (ask.ifMatch != NONE) {
          return NOT_AS_ASKED;
        }
        changeGreatly(ask.path, ask.size, SORT_STRONG, 0, now);
        return CREATED;
      }
      int tag = document.tagFor(ask.lang, ask.coding);
      if (ask.isRefusedBy(tag, document.date())) {
        return NOT_AS_ASKED;
      }
      if (ask.isReading()) {
        return ask.statusFor(tag, document.date(), document.length);
      }
      if (ask.knowsTag(tag)) {
        return NOT_AS_ASKED;
      }
      change(document, ask, now);
      return CHANGED;
    }

    private void change(Document document, Ask ask, int now) {
      if (ask.method == PUT) {
        changeGreatly(ask.path, ask.size, document.sort, document.vary, now);
      } else if (ask.method == POST) {
        changeSlightly(document, now);
      } else {
        take(document, now);
      }
    }

    /** What goes with the status of an answer about a BODY; null with other ones. */
    Entry whatItTells(Ask ask, int status, int date, int now) {
      Document document = at(ask.path);
      if (document == null || (status != OK && status != PARTIAL && status != NOT_MODIFIED)) {
        return null;
      }
      Entry entry = new Entry(ask, document, policyAt(ask.path));
      entry.date = date;
      entry.made = now;
      if (status != NOT_MODIFIED) {
        boolean isPart = status == PARTIAL;
        int first = isPart ? ask.rangeFirst(entry.total) : 0;
        int last = isPart ? ask.rangeLast(entry.total) : entry.total - 1;
        entry.fill(document, document.variant(ask.lang, ask.coding), first, last);
      }
      return entry;
    }

    /** Whether what was TOLD stood there at a moment not older than its AGE. */
    boolean everShowed(Request request) {
      int path = request.ask.path;
      Document document = path >= 0 && path < PATHS ? newest[path] : null;
      for (; document != null; document = document.before) {
        boolean isThen = document.modified <= request.toldAt && document.until >= request.toldAt - request.age;
        if (isThen && document.shows(request)) {
          return true;
        }
      }
      return false;
    }
  }

  /** What a REQUEST has, or what an ORIGIN is asked. */
  private static final class Ask {
    final int method;
    final int path;
    int lang;
    int coding;
    int size;
    int wantsAge = NONE;
    int letsStale = NONE;
    int wantsFresh = NONE;
    int wishes = 0;
    int ifMatch = NONE;
    int ifNone = NONE;
    int ifSince = NEVER;
    int ifUnchanged = NEVER;
    int first = NONE;
    int last = NONE;
    int ifRange = NONE;

    Ask(int method, int path, int lang, int coding, int size) {
      this.method = method;
      this.path = path;
      this.lang = lang;
      this.coding = coding;
      this.size = size;
    }

    Ask plain() {
      return new Ask(GET, path, lang, coding, 0);
    }

    Ask copy() {
      Ask other = new Ask(method, path, lang, coding, size);
      other.wantsAge = wantsAge;
      other.letsStale = letsStale;
      other.wantsFresh = wantsFresh;
      other.wishes = wishes;
      other.ifMatch = ifMatch;
      other.ifNone = ifNone;
      other.ifSince = ifSince;
      other.ifUnchanged = ifUnchanged;
      other.first = first;
      other.last = last;
      other.ifRange = ifRange;
      return other;
    }

    boolean hasWish(int wish) {
      return (wishes & wish) != 0;
    }

    boolean isReading() {
      return method == GET || method == HEAD;
    }

    /** Whether an ORIGIN itself has to look at it. */
    boolean isConditional() {
      return !isReading() || ifMatch != NONE || ifUnchanged != NEVER;
    }

    boolean isPass() {
      return isConditional() || hasWish(WISH_NO_STORE);
    }

    private boolean hasRange() {
      return method == GET && (first != NONE || last != NONE);
    }

    boolean wantsPart() {
      return hasRange() && ifRange == NONE;
    }

    int rangeFirst(int total) {
      if (first != NONE) {
        return first;
      }
      return last < total ? total - last : 0;
    }

    int rangeLast(int total) {
      boolean isToEnd = first == NONE || last == NONE || last >= total;
      return isToEnd ? total - 1 : last;
    }

    boolean isRefusedBy(int tag, int date) {
      if (ifMatch != NONE) {
        return ifMatch != ANY && !isSameStrong(ifMatch, tag);
      }
      return ifUnchanged != NEVER && (date == NEVER || date > ifUnchanged);
    }

    boolean knowsTag(int tag) {
      return ifNone == ANY || (ifNone != NONE && ifNone == tag);
    }

    /** The status for a BODY with that TAG, date and number of SIGNS, of a GET or HEAD. */
    int statusFor(int tag, int date, int total) {
      boolean isSince = ifNone == NONE && ifSince != NEVER && date != NEVER && date <= ifSince;
      if (isSince || knowsTag(tag)) {
        return NOT_MODIFIED;
      }
      if (hasRange() && (ifRange == NONE || isSameStrong(ifRange, tag))) {
        return rangeFirst(total) >= total ? NO_SUCH_RANGE : PARTIAL;
      }
      return OK;
    }

    void writeTo(StringBuilder to) {
      to.append(methodName()).append(" /").append(path);
      writeNumber(to, ", lang=", lang, 0);
      writeNumber(to, ", coding=", coding, 0);
      writeNumber(to, ", size=", size, 0);
      writeNumber(to, ", max-age=", wantsAge, NONE);
      writeNumber(to, ", max-stale=", letsStale, NONE);
      writeNumber(to, ", min-fresh=", wantsFresh, NONE);
      to.append(hasWish(WISH_NO_CACHE) ? ", no-cache" : "");
      to.append(hasWish(WISH_NO_STORE) ? ", no-store" : "");
      to.append(hasWish(WISH_ONLY_KEPT) ? ", only-if-cached" : "");
      writeTag(to, ", if-match=", ifMatch);
      writeTag(to, ", if-none-match=", ifNone);
      writeNumber(to, ", if-modified-since=", ifSince, NEVER);
      writeNumber(to, ", if-unmodified-since=", ifUnchanged, NEVER);
      if (first != NONE || last != NONE) {
        writeNumber(to, ", range=", first, NONE);
        to.append(first == NONE ? ", range=-" : "-");
        writeNumber(to, "", last, NONE);
      }
      writeNumber(to, ", if-range=", ifRange, NONE);
    }

    private String methodName() {
      switch (method) {
        case GET: return "GET";
        case HEAD: return "HEAD";
        case PUT: return "PUT";
        case POST: return "POST";
        default: return "DELETE";
      }
    }

    private static void writeNumber(StringBuilder to, String name, int number, int absent) {
      if (number != absent) {
        to.append(name).append(number);
      }
    }

    private static void writeTag(StringBuilder to, String name, int tag) {
      if (tag == ANY) {
        to.append(name).append('*');
      } else {
        writeNumber(to, name, tag, NONE);
      }
    }
  }

  /** One that was SENT, and what it was TOLD. */
  private static final class Request {
    final int number;
    final Ask ask;
    final int sentAt;
    /** The FETCH of another one, for which it WAITS. */
    Fetch waitsFor = null;
    /** 0 as long as it WAITS. */
    int status = 0;
    int how = NONE;
    int age = 0;
    int freshness = 0;
    int date = NEVER;
    int last = NEVER;
    int tag = NONE;
    int total = NONE;
    int firstPlace = NONE;
    int lastPlace = NONE;
    int made = NONE;
    int toldAt = NONE;
    int origin = NONE;
    String told = "";

    Request(int number, Ask ask, int sentAt) {
      this.number = number;
      this.ask = ask;
      this.sentAt = sentAt;
    }

    boolean isDone() {
      return status != 0;
    }

    void putDetails(Entry from) {
      date = from.date;
      last = from.last;
      tag = from.tag;
      total = from.total;
      made = from.made;
      if (status == PARTIAL) {
        firstPlace = ask.rangeFirst(total);
        lastPlace = ask.rangeLast(total);
      }
    }

    int firstSign() {
      return status == PARTIAL ? firstPlace : 0;
    }

    int lastSign() {
      return status == PARTIAL ? lastPlace : total - 1;
    }

    boolean hasBody() {
      return ask.method == GET && (status == OK || status == PARTIAL);
    }

    int detail(int what) {
      if (!isDone() && what != 12) {
        return NONE;
      }
      switch (what) {
        case 0: return status;
        case 1: return how;
        case 2: return age;
        case 3: return freshness;
        case 4: return date;
        case 5: return last;
        case 6: return tag;
        case 7: return total;
        case 8: return firstPlace;
        case 9: return lastPlace;
        case 10: return made;
        case 11: return toldAt;
        case 12: return sentAt;
        default: return origin;
      }
    }

    void writeAnswerTo(StringBuilder to) {
      if (!isDone()) {
        to.append("waits");
        return;
      }
      to.append(status).append(' ').append(howName());
      if (total != NONE) {
        to.append(", age=").append(age);
        if (tag != NONE) {
          to.append(", tag=").append(tag);
        }
        if (status == PARTIAL) {
          to.append(", range=").append(firstPlace).append('-').append(lastPlace).append('/').append(total);
        }
      }
    }

    private String howName() {
      switch (how) {
        case HIT: return "hit";
        case FETCHED: return "fetched";
        case VALIDATED: return "validated";
        case LET_STALE: return "let stale";
        case STALE_WHILE: return "stale while";
        case STALE_IF: return "stale if";
        case PASSED: return "passed";
        case NOT_KEPT: return "not kept";
        default: return "fault";
      }
    }
  }

  /** What is asked of ORIGINS, one after the other. */
  private static final class Fetch {
    final int number;
    final int kind;
    final Ask ask;
    /** The one for which it began; null in the background. */
    final Request request;
    /** E as it was when this began: an ENTRY is never changed once it is KEPT. */
    final Entry base;
    int tries = 0;
    int tried = 0;
    Origin origin = null;
    int sent = NONE;
    int arrives = NONE;
    int comes = NONE;
    /** Of the TRY that is under way; 0 as long as nothing was told. */
    int status = 0;
    Entry answer = null;
    int ended = 0;

    Fetch(int number, int kind, Ask ask, Request request, Entry base) {
      this.number = number;
      this.kind = kind;
      this.ask = ask;
      this.request = request;
      this.base = base;
    }

    boolean isOver() {
      return ended != 0;
    }

    /** No ORIGIN's own status is that high. */
    boolean isFault() {
      return ended >= FAULT_BROKEN;
    }

    boolean isJoinable() {
      return !isOver() && (kind == WHOLE || kind == VALIDATE);
    }

    boolean isFor(int path, int lang, int coding) {
      return ask.path == path && ask.lang == lang && ask.coding == coding;
    }

    boolean mayTry() {
      return tries == 0 || (tries < TRIES_MOST && ask.isReading());
    }

    int faultNow() {
      if (tries == 0) {
        return FAULT_NO_ORIGIN;
      }
      return status == BROKEN ? FAULT_BROKEN : FAULT_SILENT;
    }

    void sendTo(Origin next, int now) {
      origin = next;
      tries++;
      tried |= 1 << next.number;
      next.tries++;
      sent = now;
      arrives = now + next.delay;
      comes = now + 2 * next.delay;
      status = 0;
      answer = null;
    }

    int detail(int what) {
      switch (what) {
        case 0: return kind;
        case 1: return ask.path;
        case 2: return ask.lang;
        case 3: return ask.coding;
        case 4: return tries;
        case 5: return origin == null ? NONE : origin.number;
        case 6: return sent;
        case 7: return request == null ? NONE : request.number;
        case 9: return isOver() ? 0 : 1;
        default: return ended;
      }
    }
  }

  /** An answer about a BODY, KEPT or not; once it is KEPT, a changed one is a new one. */
  private static final class Entry {
    final int path;
    final int vary;
    final int lang;
    final int coding;
    final int tag;
    final int total;
    final char[] signs = new char[LENGTH_MOST];
    int held = 0;
    int date = NEVER;
    int last = NEVER;
    Policy policy;
    int sent = NONE;
    int got = NONE;
    int made = NONE;
    /** Which KEEPING made it: of two that came at once the later one is SELECTED. */
    int kept = 0;

    Entry(Ask ask, Document document, Policy policy) {
      this.path = ask.path;
      this.vary = document.vary;
      this.lang = (vary & BY_LANG) != 0 ? ask.lang : 0;
      this.coding = (vary & BY_CODING) != 0 ? ask.coding : 0;
      this.tag = document.tagFor(ask.lang, ask.coding);
      this.total = Math.min(document.length, LENGTH_MOST);
      this.last = document.date();
      this.policy = policy;
    }

    /** The SIGNS of one, told anew by another one. */
    private Entry(Entry old, Entry answer) {
      this.path = old.path;
      this.vary = old.vary;
      this.lang = old.lang;
      this.coding = old.coding;
      this.tag = old.tag;
      this.total = old.total;
      this.date = answer.date;
      this.last = answer.last;
      this.policy = answer.policy;
      this.sent = answer.sent;
      this.got = answer.got;
      this.made = answer.made;
    }

    void fill(Document document, int variant, int first, int lastPlace) {
      for (int i = Math.max(first, 0); i <= lastPlace && i < LENGTH_MOST; i++) {
        put(i, document.signAt(i, variant));
      }
    }

    private void put(int place, char sign) {
      if (place >= 0 && place < LENGTH_MOST && sign != 0 && signs[place] == 0) {
        signs[place] = sign;
        held++;
      }
    }

    private void putAll(Entry other) {
      for (int i = 0; i < LENGTH_MOST; i++) {
        put(i, other.signs[i]);
      }
    }

    Entry renewed(Entry answer) {
      Entry next = new Entry(this, answer);
      next.putAll(this);
      return next;
    }

    Entry joined(Entry part) {
      Entry next = new Entry(this, part);
      next.putAll(part);
      next.putAll(this);
      return next;
    }

    boolean canJoin(Entry part) {
      return isSameStrong(tag, part.tag) && total == part.total && fits(part.path, part.lang, part.coding);
    }

    boolean isHeld(int place) {
      return place >= 0 && place < LENGTH_MOST && signs[place] != 0;
    }

    boolean fits(int path, int lang, int coding) {
      boolean isLang = (vary & BY_LANG) == 0 || this.lang == lang;
      boolean isCoding = (vary & BY_CODING) == 0 || this.coding == coding;
      return this.path == path && isLang && isCoding;
    }

    /** Of two like this the store keeps only one. */
    boolean isLike(Entry other) {
      return path == other.path && vary == other.vary && lang == other.lang && coding == other.coding;
    }

    int age(int now) {
      return Math.max(0, Math.max(got - date, got - sent)) + now - got;
    }

    int freshness() {
      if (policy.sharedAge != NONE) {
        return policy.sharedAge;
      }
      if (policy.maxAge != NONE) {
        return policy.maxAge;
      }
      if (policy.expires != NONE) {
        return policy.expires;
      }
      return last == NEVER ? 0 : Math.max(0, Math.min(60, Math.floorDiv(date - last, 10)));
    }

    private boolean isStrict() {
      return policy.has(FLAG_MUST) || policy.sharedAge != NONE;
    }

    int cost() {
      return ENTRY_COST + held;
    }

    boolean mayBeKept() {
      return !policy.has(FLAG_NO_STORE) && !policy.has(FLAG_PRIVATE);
    }

    /** Whether another part may be asked for as long as it is the same. */
    boolean mayGrow(int now) {
      return isStrong(tag) && age(now) < freshness() && !policy.has(FLAG_NO_CACHE);
    }

    boolean hasWanted(Ask ask) {
      boolean isPart = ask.wantsPart();
      int end = isPart ? ask.rangeLast(total) : total - 1;
      for (int i = isPart ? ask.rangeFirst(total) : 0; i <= end && i < LENGTH_MOST; i++) {
        if (!isHeld(i)) {
          return false;
        }
      }
      return true;
    }

    /** Has a GET ask for what is WANTED and not HELD, if those places are one row. */
    boolean putGap(Ask ask, Ask plain) {
      boolean isPart = ask.wantsPart();
      int end = isPart ? ask.rangeLast(total) : total - 1;
      int first = NONE;
      int lastPlace = NONE;
      int missing = 0;
      for (int i = isPart ? ask.rangeFirst(total) : 0; i <= end && i < LENGTH_MOST; i++) {
        if (!isHeld(i)) {
          first = first == NONE ? i : first;
          lastPlace = i;
          missing++;
        }
      }
      if (missing == 0 || lastPlace - first + 1 != missing) {
        return false;
      }
      plain.first = first;
      plain.last = lastPlace;
      plain.ifRange = tag;
      return true;
    }

    Ask validating(Ask plain) {
      if (tag != NONE) {
        plain.ifNone = tag;
      } else if (last != NEVER && last < sent) {
        plain.ifSince = last;
      }
      return plain;
    }

    /** HOW it may be TOLD at once if it has what is WANTED; NONE if it may not. */
    int readyFor(Ask ask, int now) {
      int age = age(now);
      boolean isTooOld = ask.wantsAge != NONE && age > ask.wantsAge;
      if (isTooOld || ask.hasWish(WISH_NO_CACHE) || policy.has(FLAG_NO_CACHE)) {
        return NONE;
      }
      int staleBy = age - freshness();
      if (staleBy < 0) {
        return ask.wantsFresh != NONE && -staleBy < ask.wantsFresh ? NONE : HIT;
      }
      if (isStrict() || ask.wantsFresh != NONE) {
        return NONE;
      }
      if (ask.letsStale != NONE && staleBy <= ask.letsStale) {
        return LET_STALE;
      }
      return staleBy < policy.staleWhile ? STALE_WHILE : NONE;
    }

    /** Whether it may be TOLD instead of a FAULT; one that is FRESH is stale by less than 0. */
    boolean helpsOut(Ask ask, int now) {
      boolean isBarred = isStrict() || policy.has(FLAG_NO_CACHE) || ask.hasWish(WISH_NO_CACHE);
      boolean isFussy = ask.wantsAge != NONE || ask.wantsFresh != NONE;
      return !isBarred && !isFussy && age(now) - freshness() < policy.staleIf;
    }

    /** Whether its SIGNS are those of which its strong TAG tells. */
    boolean isAsTagged() {
      if (!isStrong(tag)) {
        return true;
      }
      int variant = tag / 2 % 6;
      int version = tag / 12000;
      int capitals = total < 0 ? 0 : tag / 12 % 1000 % (total + 1);
      for (int i = 0; i < LENGTH_MOST; i++) {
        if (isHeld(i) && signs[i] != sign(i, path, version, variant, capitals)) {
          return false;
        }
      }
      return true;
    }

    int detail(int what, int now) {
      switch (what) {
        case 0: return path;
        case 1: return vary;
        case 2: return lang;
        case 3: return coding;
        case 4: return age(now);
        case 5: return freshness();
        case 6: return date;
        case 7: return last;
        case 8: return tag;
        case 9: return total;
        case 10: return held;
        case 11: return sent;
        case 12: return got;
        case 13: return made;
        case 14: return cost();
        default: return one(age(now) < freshness());
      }
    }

    void writeTo(StringBuilder to, int first, int lastPlace) {
      for (int i = Math.max(first, 0); i <= lastPlace && i < LENGTH_MOST; i++) {
        to.append(signs[i] != 0 ? signs[i] : '.');
      }
    }
  }

  /** The ENTRIES, the one that was USED longest ago first. */
  private static final class Store {
    final ArrayList<Entry> entries = new ArrayList<Entry>();
    int room = 300;
    int crowdedOut = 0;
    private int keepings = 0;

    int size() {
      return entries.size();
    }

    int cost() {
      int cost = 0;
      for (int i = 0; i < entries.size(); i++) {
        cost += ENTRY_COST + entries.get(i).held;
      }
      return cost;
    }

    Entry select(int path, int lang, int coding) {
      Entry best = null;
      for (int i = 0; i < entries.size(); i++) {
        Entry entry = entries.get(i);
        if (entry.fits(path, lang, coding)) {
          boolean isLater = best == null || entry.got > best.got || (entry.got == best.got && entry.kept > best.kept);
          best = isLater ? entry : best;
        }
      }
      return best;
    }

    int placeOf(Entry entry) {
      for (int i = 0; i < entries.size(); i++) {
        if (entries.get(i) == entry) {
          return i;
        }
      }
      return NONE;
    }

    void use(Entry entry) {
      int place = placeOf(entry);
      if (place >= 0 && place < entries.size()) {
        entries.remove(place);
        entries.add(entry);
      }
    }

    void keep(Entry entry) {
      for (int i = entries.size() - 1; i >= 0; i--) {
        if (entries.get(i).isLike(entry)) {
          entries.remove(i);
        }
      }
      if (entry.cost() <= room) {
        makeRoom(entry.cost());
        keepings++;
        entry.kept = keepings;
        entries.add(entry);
      }
    }

    /** Lets ENTRIES go until one of that COST has room; how many go. */
    int makeRoom(int needed) {
      int there = entries.size();
      int gone = 0;
      while (gone < there && cost() + needed > room) {
        entries.remove(0);
        gone++;
      }
      crowdedOut += gone;
      return gone;
    }

    int forgetPath(int path) {
      int gone = 0;
      for (int i = entries.size() - 1; i >= 0; i--) {
        if (entries.get(i).path == path) {
          entries.remove(i);
          gone++;
        }
      }
      return gone;
    }

    void forgetFitting(Ask ask) {
      for (int i = entries.size() - 1; i >= 0; i--) {
        if (entries.get(i).fits(ask.path, ask.lang, ask.coding)) {
          entries.remove(i);
        }
      }
    }

    int forgetAll() {
      int gone = entries.size();
      entries.clear();
      return gone;
    }

    boolean isOrderly() {
      for (int i = 0; i < entries.size(); i++) {
        Entry entry = entries.get(i);
        if (!entry.isAsTagged()) {
          return false;
        }
        for (int k = 0; k < i; k++) {
          if (entries.get(k).isLike(entry)) {
            return false;
          }
        }
      }
      return cost() <= room;
    }
  }

  /** The TOKENS that were typed. A row is read from left to right by what is due next. */
  private static final class Row {
    private static final int BAD = 0;
    private static final int METHOD_DUE = 1;
    private static final int SLASH_DUE = 2;
    private static final int NUMBER_DUE = 3;
    private static final int FIELD_DONE = 4;
    private static final int FIELD_DUE = 5;
    private static final int ITEMS_DUE = 6;
    private static final int NUMBER_IS_DUE = 7;
    private static final int MATCH_IS_DUE = 8;
    private static final int MATCH_DUE = 9;
    private static final int DATE_IS_DUE = 10;
    private static final int DATE_DUE = 11;
    private static final int NOW_DONE = 12;
    private static final int RANGE_IS_DUE = 13;
    private static final int RANGE_DUE = 14;
    private static final int DASH_DUE = 15;
    private static final int DASH_DONE = 16;
    private static final int WHICH_IS_DUE = 17;
    private static final int WHICH_DUE = 18;

    private final int[] tokens = new int[ROW_MOST];
    int count = 0;
    /** Of the last examination: 0 and NONE without a FAULT. */
    int faultKind = 0;
    int faultPlace = NONE;

    void push(int token) {
      if (token != NONE && count >= 0 && count < ROW_MOST) {
        tokens[count] = token;
        count++;
      }
    }

    void drop(int many) {
      count = Math.max(0, count - many);
    }

    private int tokenAt(int place) {
      return place >= 0 && place < count && place < ROW_MOST ? tokens[place] : NONE;
    }

    /** The NUMBER that stands there, or NONE. */
    private int numberAt(int place) {
      int token = tokenAt(place);
      return isNumber(token) ? token - FIRST_NUMBER : NONE;
    }

    private static boolean isNumber(int token) {
      return token >= FIRST_NUMBER;
    }

    void examine(boolean isPolicy) {
      faultKind = 1;
      faultPlace = misplaced(isPolicy);
      if (faultPlace == NONE) {
        faultKind = 2;
        faultPlace = repeated();
      }
      if (faultPlace == NONE) {
        faultKind = 3;
        faultPlace = outOfBounds(isPolicy);
      }
      if (faultPlace == NONE) {
        faultKind = 0;
      }
    }

    private int misplaced(boolean isPolicy) {
      int due = isPolicy ? ITEMS_DUE : METHOD_DUE;
      for (int i = 0; i < count; i++) {
        due = after(due, tokenAt(i), isPolicy);
        if (due == BAD) {
          return i;
        }
      }
      boolean isWhole = due == FIELD_DONE || due == ITEMS_DUE || due == NOW_DONE || due == DASH_DONE;
      return isWhole ? NONE : count;
    }

    private static int after(int due, int token, boolean isPolicy) {
      switch (due) {
        case METHOD_DUE: return token <= DELETE ? SLASH_DUE : BAD;
        case SLASH_DUE: return token == T_SLASH ? NUMBER_DUE : BAD;
        case NUMBER_DUE: return isNumber(token) ? FIELD_DONE : BAD;
        case FIELD_DONE: return token == T_COMMA ? FIELD_DUE : BAD;
        case FIELD_DUE: return isPolicy ? afterItem(token) : afterField(token);
        case ITEMS_DUE: return afterItem(token);
        case NUMBER_IS_DUE: return token == T_EQUALS ? NUMBER_DUE : BAD;
        case MATCH_IS_DUE: return token == T_EQUALS ? MATCH_DUE : BAD;
        case MATCH_DUE: return token == T_STAR || isWhich(token) ? FIELD_DONE : BAD;
        case DATE_IS_DUE: return token == T_EQUALS ? DATE_DUE : BAD;
        case DATE_DUE: return token == T_NOW ? NOW_DONE : isNumber(token) ? FIELD_DONE : BAD;
        case NOW_DONE: return token == T_DASH ? NUMBER_DUE : token == T_COMMA ? FIELD_DUE : BAD;
        case RANGE_IS_DUE: return token == T_EQUALS ? RANGE_DUE : BAD;
        case RANGE_DUE: return token == T_DASH ? NUMBER_DUE : isNumber(token) ? DASH_DUE : BAD;
        case DASH_DUE: return token == T_DASH ? DASH_DONE : BAD;
        case DASH_DONE: return token == T_COMMA ? FIELD_DUE : isNumber(token) ? FIELD_DONE : BAD;
        case WHICH_IS_DUE: return token == T_EQUALS ? WHICH_DUE : BAD;
        case WHICH_DUE: return isWhich(token) ? FIELD_DONE : BAD;
        default: return BAD;
      }
    }

    private static boolean isWhich(int token) {
      return token == T_TAG || token == T_LAST || isNumber(token);
    }

    private static int afterField(int token) {
      switch (token) {
        case T_LANG:
        case T_CODING:
        case T_SIZE:
        case T_MAX_AGE:
        case T_MAX_STALE:
        case T_MIN_FRESH: return NUMBER_IS_DUE;
        case T_NO_CACHE:
        case T_NO_STORE:
        case T_ONLY_KEPT: return FIELD_DONE;
        case T_IF_MATCH:
        case T_IF_NONE: return MATCH_IS_DUE;
        case T_IF_SINCE:
        case T_IF_UNCHANGED: return DATE_IS_DUE;
        case T_RANGE: return RANGE_IS_DUE;
        case T_IF_RANGE: return WHICH_IS_DUE;
        default: return BAD;
      }
    }

    private static int afterItem(int token) {
      switch (token) {
        case T_MAX_AGE:
        case T_SHARED_AGE:
        case T_EXPIRES:
        case T_STALE_WHILE:
        case T_STALE_IF: return NUMBER_IS_DUE;
        case T_NO_STORE:
        case T_NO_CACHE:
        case T_PRIVATE:
        case T_MUST: return FIELD_DONE;
        default: return BAD;
      }
    }

    /** In a row without misplaced TOKENS these words stand nowhere else. */
    private static boolean isWord(int token) {
      return token >= T_LANG && token <= T_STALE_IF;
    }

    private int repeated() {
      long seen = 0;
      for (int i = 0; i < count; i++) {
        int token = tokenAt(i);
        if (isWord(token)) {
          if ((seen >> token & 1) != 0) {
            return i;
          }
          seen |= 1L << token;
        }
      }
      return NONE;
    }

    private int outOfBounds(boolean isPolicy) {
      if (!isPolicy && numberAt(2) >= PATHS) {
        return 2;
      }
      for (int i = 0; i < count; i++) {
        int token = tokenAt(i);
        if (token == T_RANGE) {
          int place = wrongRange(i + 2);
          if (place != NONE) {
            return place;
          }
        } else if (numberAt(i + 2) > mostOf(token)) {
          return i + 2;
        }
      }
      return NONE;
    }

    /** The place of the last NUMBER of a RANGE that is none; NONE if it is one. */
    private int wrongRange(int place) {
      if (tokenAt(place) == T_DASH) {
        return numberAt(place + 1) == 0 ? place + 1 : NONE;
      }
      int last = numberAt(place + 2);
      return last != NONE && last < numberAt(place) ? place + 2 : NONE;
    }

    private static int mostOf(int token) {
      switch (token) {
        case T_LANG: return 2;
        case T_CODING: return 1;
        case T_SIZE: return LENGTH_MOST;
        case T_MAX_AGE:
        case T_MAX_STALE:
        case T_MIN_FRESH:
        case T_SHARED_AGE:
        case T_EXPIRES: return SECONDS_MOST;
        case T_STALE_WHILE:
        case T_STALE_IF: return GRACE_MOST;
        default: return LAST_NUMBER;
      }
    }

    int items() {
      int items = 0;
      for (int i = 0; i < count; i++) {
        items += one(isWord(tokenAt(i)));
      }
      return items;
    }

    /** The place of a word, or NONE. */
    private int placeOf(int word) {
      for (int i = 0; i < count; i++) {
        if (tokenAt(i) == word) {
          return i;
        }
      }
      return NONE;
    }

    private int numberOf(int word, int absent) {
      int place = placeOf(word);
      return place == NONE ? absent : numberAt(place + 2);
    }

    private int flagIf(int word, int flag) {
      return placeOf(word) == NONE ? 0 : flag;
    }

    /** Of a row without FAULTS all but what asks for a TAG or a date. */
    Ask plainAsk() {
      Ask ask = new Ask(tokenAt(0), numberAt(2), numberOf(T_LANG, 0), numberOf(T_CODING, 0), numberOf(T_SIZE, 0));
      ask.wantsAge = numberOf(T_MAX_AGE, NONE);
      ask.letsStale = numberOf(T_MAX_STALE, NONE);
      ask.wantsFresh = numberOf(T_MIN_FRESH, NONE);
      ask.wishes = flagIf(T_NO_CACHE, WISH_NO_CACHE) + flagIf(T_NO_STORE, WISH_NO_STORE)
          + flagIf(T_ONLY_KEPT, WISH_ONLY_KEPT);
      int range = placeOf(T_RANGE);
      if (range != NONE) {
        boolean isOfEnd = tokenAt(range + 2) == T_DASH;
        ask.first = isOfEnd ? NONE : numberAt(range + 2);
        ask.last = numberAt(isOfEnd ? range + 3 : range + 4);
      }
      return ask;
    }

    void putConditions(Ask ask, int tagNow, int lastTag, int now) {
      ask.ifMatch = tagOf(T_IF_MATCH, tagNow, lastTag);
      ask.ifNone = tagOf(T_IF_NONE, tagNow, lastTag);
      ask.ifRange = tagOf(T_IF_RANGE, tagNow, lastTag);
      ask.ifSince = dateOf(T_IF_SINCE, now);
      ask.ifUnchanged = dateOf(T_IF_UNCHANGED, now);
    }

    private int tagOf(int word, int tagNow, int lastTag) {
      int place = placeOf(word);
      if (place == NONE) {
        return NONE;
      }
      switch (tokenAt(place + 2)) {
        case T_STAR: return ANY;
        case T_TAG: return tagNow;
        case T_LAST: return lastTag;
        default: return numberAt(place + 2);
      }
    }

    private int dateOf(int word, int now) {
      int place = placeOf(word);
      if (place == NONE) {
        return NEVER;
      }
      if (tokenAt(place + 2) != T_NOW) {
        return numberAt(place + 2);
      }
      return tokenAt(place + 3) == T_DASH ? now - numberAt(place + 4) : now;
    }

    Policy asPolicy() {
      int flags = flagIf(T_NO_STORE, FLAG_NO_STORE) + flagIf(T_NO_CACHE, FLAG_NO_CACHE)
          + flagIf(T_PRIVATE, FLAG_PRIVATE) + flagIf(T_MUST, FLAG_MUST);
      return new Policy(numberOf(T_MAX_AGE, NONE), numberOf(T_SHARED_AGE, NONE), numberOf(T_EXPIRES, NONE),
          flags, numberOf(T_STALE_WHILE, 0), numberOf(T_STALE_IF, 0));
    }

    void writeTo(StringBuilder to) {
      for (int i = 0; i < count; i++) {
        int token = tokenAt(i);
        if (i > 0) {
          to.append(' ');
        }
        if (isNumber(token)) {
          to.append(token - FIRST_NUMBER);
        } else {
          to.append(wordOf(token));
        }
      }
    }

    private static String wordOf(int token) {
      switch (token) {
        case GET: return "get";
        case HEAD: return "head";
        case PUT: return "put";
        case POST: return "post";
        case DELETE: return "delete";
        case T_SLASH: return "/";
        case T_COMMA: return ",";
        case T_EQUALS: return "=";
        case T_DASH: return "-";
        case T_STAR: return "*";
        case T_LANG: return "lang";
        case T_CODING: return "coding";
        case T_SIZE: return "size";
        case T_MAX_AGE: return "max-age";
        case T_MAX_STALE: return "max-stale";
        case T_MIN_FRESH: return "min-fresh";
        case T_NO_CACHE: return "no-cache";
        case T_NO_STORE: return "no-store";
        case T_ONLY_KEPT: return "only-if-cached";
        case T_IF_MATCH: return "if-match";
        case T_IF_NONE: return "if-none-match";
        case T_IF_SINCE: return "if-modified-since";
        case T_IF_UNCHANGED: return "if-unmodified-since";
        case T_RANGE: return "range";
        case T_IF_RANGE: return "if-range";
        case T_SHARED_AGE: return "s-maxage";
        case T_EXPIRES: return "expires";
        case T_PRIVATE: return "private";
        case T_MUST: return "must-revalidate";
        case T_STALE_WHILE: return "stale-while";
        case T_STALE_IF: return "stale-if";
        case T_NOW: return "now";
        case T_TAG: return "tag";
        default: return "last";
      }
    }
  }
}
