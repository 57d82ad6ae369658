import java.lang.reflect.InvocationTargetException;
import java.lang.reflect.Method;
import java.util.ArrayList;
import java.util.Arrays;
import java.util.HashMap;
import java.util.List;
import java.util.Map;
import java.util.Random;

/**
 * Random runs of 512 calls, each answer compared with that of Model. The seeds are fixed, so that a
 * run that fails can be looked at again: java ModelTest first-seed runs.
 */
public final class ModelTest {
  private static final Map<String, Method> FRONT = methods(Cachefront.class);
  private static final Map<String, Method> MODEL = methods(Model.class);

  private final Random random;
  private final Cachefront front = new Cachefront();
  private final Model model = new Model();
  private final List<String> calls = new ArrayList<>();
  private final int paths;
  private final int langs;
  private final int codings;
  private final int wildness;
  /** Whether ORIGINS fail often. */
  private final boolean isRough;
  /** Whether REQUESTS and POLICIES are mostly plain, and ORIGINS are well or ill together. */
  private final boolean isPlain;
  /** Whether DOCUMENTS are mostly asked for in RANGES, stay FRESH, and change as that is under way. */
  private final boolean isParted;
  private boolean isWrong = false;
  static final int[] HOWS = new int[9];
  static final Map<String, Integer> SEEN = new HashMap<>();

  private ModelTest(long seed) {
    random = new Random(seed);
    isRough = random.nextInt(2) == 0;
    isPlain = random.nextInt(3) == 0;
    isParted = !isPlain && random.nextInt(3) == 0;
    paths = 1 + random.nextInt(isParted ? 2 : random.nextInt(4) == 0 ? 12 : 3);
    langs = 1 + random.nextInt(isParted ? 2 : 3);
    codings = 1 + random.nextInt(isParted ? 1 : 2);
    wildness = random.nextInt(3) == 0 ? 12 : 200;
  }

  public static void main(String[] args) {
    long first = args.length > 0 ? Long.parseLong(args[0]) : 1;
    int runs = args.length > 1 ? Integer.parseInt(args[1]) : 400;
    int wrong = 0;
    for (long seed = first; seed < first + runs; seed++) {
      ModelTest test = new ModelTest(seed);
      if (!test.run()) {
        wrong++;
        System.out.println("seed " + seed + " after " + test.calls.size() + " calls");
        if (args.length > 2) {
          test.calls.forEach(System.out::println);
        }
      }
    }
    System.out.println("TOLD by HOW " + Arrays.toString(HOWS));
    if (args.length > 1) {
      SEEN.entrySet().stream().sorted(Map.Entry.comparingByKey()).forEach(System.out::println);
    }
    System.out.println(runs + " runs, " + wrong + " wrong");
    if (wrong != 0) {
      System.exit(1);
    }
  }

  private static Map<String, Method> methods(Class<?> of) {
    Map<String, Method> map = new HashMap<>();
    for (Method m : of.getDeclaredMethods()) {
      if (m.getReturnType() != void.class) {
        m.setAccessible(true);
        map.putIfAbsent(m.getName() + "/" + kinds(m.getParameterTypes()), m);
      }
    }
    return map;
  }

  private static String kinds(Class<?>[] types) {
    StringBuilder b = new StringBuilder();
    for (Class<?> t : types) {
      b.append(t == boolean.class ? 'b' : t == int.class ? 'i' : 'x');
    }
    return b.toString();
  }

  private static Object answer(Method m, Object on, Object[] args) {
    try {
      return m.invoke(on, args);
    } catch (InvocationTargetException e) {
      return "throws " + e.getCause().getClass().getSimpleName() + (isOwn(e.getCause()) ? "" : " of the machine");
    } catch (IllegalAccessException e) {
      return "no access";
    }
  }

  /** The library and the machine throw from classes of their own, or below the names that are due. */
  private static boolean isOwn(Throwable thrown) {
    StackTraceElement[] trace = thrown.getStackTrace();
    String top = trace.length > 0 ? trace[0].getClassName() : "";
    return top.startsWith("Cachefront") || top.startsWith("Model");
  }

  /** An object is used for at most 512 calls, of which digest() is the last one. */
  private Object call(String name, Object... args) {
    return calls.size() < 511 ? compared(name, args) : "enough";
  }

  private Object compared(String name, Object... args) {
    StringBuilder b = new StringBuilder(name).append('/');
    for (Object a : args) {
      b.append(a instanceof Boolean ? 'b' : 'i');
    }
    String key = b.toString();
    Object got = answer(FRONT.get(key), front, args);
    Object due = answer(MODEL.get(key), model, args);
    calls.add(name + Arrays.toString(args) + " = " + got);
    if (!got.equals(due)) {
      isWrong = true;
      System.out.println(name + Arrays.toString(args) + " answered " + got + ", the model " + due);
    }
    return got;
  }

  private boolean run() {
    int digests = 512 / (1 + random.nextInt(60)) + 40;
    setUp();
    while (calls.size() < 511 && !isWrong) {
      if (random.nextInt(digests) == 0) {
        call("digest");
      } else {
        step();
      }
    }
    compared("digest");
    for (int how = 0; how < 9; how++) {
      HOWS[how] += model.house(9 + how);
    }
    for (int i = 0; i < model.sents.size(); i++) {
      String key = model.ofAnswer(i, 0) + " HOW " + model.ofAnswer(i, 1) + " METHOD " + model.sents.get(i).req.method;
      SEEN.merge(key, 1, Integer::sum);
      SEEN.merge(model.isTrue(i) ? "true" : "not true", 1, Integer::sum);
    }
    for (Model.Fetch f : model.fetches) {
      String kind = f.kind + (f.kind == 2 && f.ask.ifRange >= 0 ? " with IF_RANGE" : "");
      SEEN.merge("fetch of kind " + kind + " ended by " + f.ended, 1, Integer::sum);
    }
    SEEN.merge(model.isSound() ? "sound" : "not sound", 1, Integer::sum);
    SEEN.merge("crowded out", model.crowded, Integer::sum);
    return !isWrong;
  }

  private void setUp() {
    for (int p = 0; p < paths; p++) {
      if (random.nextInt(5) > 0) {
        int length = isParted ? 20 + random.nextInt(21) : random.nextInt(random.nextBoolean() ? 41 : 8);
        int sort = isParted && random.nextInt(6) > 0 ? 3 : random.nextInt(4);
        call("write", p, length, sort, random.nextInt(4));
        policy(p);
      }
    }
    if (random.nextInt(3) == 0) {
      call("room", random.nextInt(random.nextBoolean() ? 601 : 80));
    }
  }

  /** Within bounds, or now and then anything. */
  private int in(int least, int most) {
    if (random.nextInt(wildness) == 0) {
      int[] odd = {least - 1, most + 1, Integer.MIN_VALUE, Integer.MAX_VALUE, -1, -2, -1000, -1001, 0, 1, 1000000};
      return odd[random.nextInt(odd.length)];
    }
    return least + random.nextInt(most - least + 1);
  }

  private int path() {
    return in(0, paths - 1);
  }

  private int lang() {
    return in(0, langs - 1);
  }

  private int coding() {
    return in(0, codings - 1);
  }

  private int age() {
    switch (random.nextInt(6)) {
      case 0: return in(0, 600);
      case 1:
      case 2: return in(0, 20);
      default: return -1;
    }
  }

  private void policy(int path) {
    if (isPlain && random.nextInt(8) > 0) {
      call("policy", path, in(0, 5), -1, -1, 0);
      call("stale", path, random.nextInt(3) == 0 ? in(0, 6) : 0, in(0, 30));
      return;
    }
    if (isParted && random.nextInt(8) > 0) {
      call("policy", path, in(5, 60), -1, -1, random.nextInt(10) == 0 ? in(0, 15) : 0);
      call("stale", path, 0, random.nextBoolean() ? 0 : in(0, 60));
      return;
    }
    int flags = random.nextInt(3) > 0 ? 0 : in(0, 15);
    call("policy", path, random.nextInt(3) == 0 ? -1 : in(0, random.nextBoolean() ? 8 : 40),
        random.nextInt(5) == 0 ? in(0, 30) : -1, random.nextInt(4) == 0 ? in(0, 30) : -1, flags);
    call("stale", path, random.nextInt(2) == 0 ? 0 : in(0, 30), random.nextInt(2) == 0 ? 0 : in(0, 60));
  }

  private int anyTag() {
    switch (random.nextInt(5)) {
      case 0: return in(0, 30000);
      case 1: return -2;
      case 2: return model.lastTag;
      default:
        int path = random.nextInt(paths);
        return model.docs[path] == null ? 12000 : model.docs[path].tag(random.nextInt(langs), random.nextInt(codings));
    }
  }

  private int anyTick() {
    return random.nextInt(4) == 0 ? in(-100, 600) : model.now - random.nextInt(20) + 5;
  }

  private void drafting() {
    if (isParted && random.nextInt(5) > 0) {
      call("draft", random.nextInt(12) == 0 ? 1 : 0, path(), lang(), coding(), 0);
      if (random.nextInt(8) > 0) {
        ranging();
      }
      return;
    }
    int method = random.nextInt(isPlain ? 20 : 3) > 0 ? 0 : in(0, random.nextBoolean() ? 1 : 4);
    call("draft", method, path(), lang(), coding(), in(0, 40));
    if (random.nextInt(isPlain ? 8 : 3) == 0) {
      int wishes = random.nextInt(2) == 0 ? 0 : in(0, 7);
      call("wish", age(), age(), age(), wishes);
    }
    if (random.nextInt(5) == 0) {
      call("match", random.nextInt(2) == 0 ? -1 : anyTag(), random.nextInt(2) == 0 ? -1 : anyTag());
    }
    if (random.nextInt(5) == 0) {
      call("since", random.nextInt(2) == 0 ? -1000 : anyTick(), random.nextInt(2) == 0 ? -1000 : anyTick());
    }
    if (random.nextInt(3) == 0) {
      ranging();
    }
  }

  private void ranging() {
    int first = in(0, random.nextBoolean() ? 10 : 41);
    int ifRange = random.nextInt(isParted ? 12 : 3) == 0 ? Math.max(-1, anyTag()) : -1;
    switch (random.nextInt(4)) {
      case 0: call("range", -1, in(1, 20), ifRange); break;
      case 1: call("range", first, -1, ifRange); break;
      default: call("range", first, first + in(0, 12), ifRange); break;
    }
  }

  private void sending() {
    if (random.nextInt(3) > 0) {
      drafting();
    }
    call("draftText");
    call("wouldBe");
    Object id = call("send");
    if (id instanceof Integer && (Integer) id >= 0) {
      look((Integer) id);
    }
    if (isParted && random.nextInt(3) == 0) {
      call("settle", in(1, 40));
    } else if (isParted && random.nextInt(4) == 0) {
      changeUnderWay();
    }
  }

  private void getting() {
    if (isParted && random.nextInt(8) > 0) {
      sending();
    } else {
      call("get", path(), lang(), coding());
    }
  }

  private void look(int id) {
    switch (random.nextInt(5)) {
      case 0: call("answerText", id); break;
      case 1: call("answerBody", id); break;
      case 2: call("isTrue", id); break;
      case 3: call("isTold", id); break;
      default: call("ofAnswer", id, in(0, 13)); break;
    }
  }

  private void typing() {
    if (random.nextInt(4) == 0) {
      call("cut", random.nextBoolean() ? 60 : in(1, 8));
    }
    List<Integer> tokens = new ArrayList<>();
    boolean isPolicy = random.nextBoolean();
    if (isPolicy) {
      items(tokens);
    } else {
      fields(tokens);
    }
    if (random.nextInt(4) == 0 && !tokens.isEmpty()) {
      tokens.set(random.nextInt(tokens.size()), random.nextBoolean() ? in(0, 33) : 1000 + in(0, 999));
    }
    if (random.nextInt(8) == 0 && !tokens.isEmpty()) {
      tokens.remove(tokens.size() - 1);
    }
    for (int i = 0; i < tokens.size(); i += 5) {
      Object[] five = {-1, -1, -1, -1, -1};
      for (int k = 0; k < 5 && i + k < tokens.size(); k++) {
        five[k] = tokens.get(i + k);
      }
      call("type", five);
    }
    call("typed");
    call("fault", isPolicy, random.nextBoolean());
    call("fault", random.nextBoolean(), random.nextBoolean());
    if (isPolicy) {
      call("toPolicy", path());
    } else {
      call("toDraft");
      call("draftText");
    }
    if (random.nextBoolean()) {
      call("cut", 60);
    }
  }

  private void number(List<Integer> tokens, int most) {
    tokens.add(1000 + (random.nextInt(8) == 0 ? random.nextInt(1000) : random.nextInt(most + 1)));
  }

  private void fields(List<Integer> tokens) {
    if (model.row.isEmpty() || random.nextInt(6) == 0) {
      tokens.addAll(List.of(random.nextInt(5), 5));
      number(tokens, 11);
    }
    int many = random.nextInt(4);
    for (int i = 0; i < many; i++) {
      tokens.add(6);
      int word = 10 + random.nextInt(15);
      tokens.add(word);
      if (word >= 16 && word <= 18) {
        continue;
      }
      tokens.add(7);
      if (word <= 15) {
        number(tokens, word == 10 ? 2 : word == 11 ? 1 : word == 12 ? 40 : 600);
      } else if (word == 23) {
        typeRange(tokens);
      } else if (word == 21 || word == 22) {
        typeDate(tokens);
      } else {
        tokens.add(word != 24 && random.nextInt(4) == 0 ? 9 : random.nextInt(3) == 0 ? 1000 + random.nextInt(999)
            : 32 + random.nextInt(2));
      }
    }
  }

  private void typeRange(List<Integer> tokens) {
    int kind = random.nextInt(3);
    if (kind > 0) {
      number(tokens, 10);
    }
    tokens.add(8);
    if (kind < 2) {
      number(tokens, 12);
    }
  }

  private void typeDate(List<Integer> tokens) {
    if (random.nextInt(3) == 0) {
      number(tokens, 100);
      return;
    }
    tokens.add(31);
    if (random.nextBoolean()) {
      tokens.add(8);
      number(tokens, 20);
    }
  }

  private void items(List<Integer> tokens) {
    int[] words = {13, 25, 26, 17, 16, 27, 28, 29, 30};
    int many = random.nextInt(4);
    for (int i = 0; i < many; i++) {
      if (!model.row.isEmpty() || i > 0) {
        tokens.add(6);
      }
      int word = words[random.nextInt(words.length)];
      tokens.add(word);
      if (word == 13 || word == 25 || word == 26 || word >= 29) {
        tokens.add(7);
        number(tokens, word >= 29 ? 60 : 600);
      }
    }
  }

  private void step() {
    switch (random.nextInt(20)) {
      case 0:
      case 1:
      case 2: sending(); break;
      case 3:
      case 4: getting(); break;
      case 5:
      case 6:
      case 7: call("goBy", in(1, random.nextInt(4) == 0 ? 60 : 5)); break;
      case 8: call("settle", in(1, random.nextBoolean() ? 120 : 3)); break;
      case 9: changeDocument(); break;
      case 10: changeOrigin(); break;
      case 11: storeCall(); break;
      case 12: typing(); break;
      case 13: call("warm", path(), lang(), coding()); break;
      case 14: oddCall(); break;
      case 15: lookAtFetch(); break;
      case 16: lookAtOrigin(); break;
      case 17:
        if (!model.sents.isEmpty()) {
          look(in(0, model.sents.size() - 1));
        }
        break;
      case 18: lookAtPath(); break;
      default: call(random.nextBoolean() ? "waiting" : "underWay"); break;
    }
  }

  private void changeDocument() {
    int path = path();
    boolean isThere = path >= 0 && path < 12 && model.docs[path] != null;
    switch (isThere ? random.nextInt(12) : random.nextInt(2)) {
      case 0: call("write", path, in(0, 40), in(0, 3), in(0, 3)); break;
      case 2:
      case 3:
      case 4: call("touch", path); break;
      case 5: call("remove", path); break;
      default: policy(path); break;
    }
  }

  /** So that an answer is not the one for which the front asked. */
  private void changeUnderWay() {
    switch (random.nextInt(5)) {
      case 0: call("write", path(), in(0, 20), random.nextBoolean() ? 3 : in(0, 3), in(0, 3)); break;
      case 1: policy(path()); break;
      case 2: call("flush"); break;
      default: call("touch", path()); break;
    }
  }

  private void manyOrigins() {
    boolean isBad = random.nextBoolean();
    for (int o = 0; o < 5; o++) {
      call("mood", o, isBad && random.nextInt(5) > 0 ? 1 + random.nextInt(2) : 0);
    }
    if (random.nextInt(6) == 0) {
      int most = random.nextInt(3);
      for (int o = 0; o < 5; o++) {
        call("weigh", o, random.nextInt(most + 1));
      }
    }
  }

  private void changeOrigin() {
    if (isPlain && random.nextInt(3) > 0) {
      int mood = model.origins.get(0).mood != 0 ? 0 : 1 + random.nextInt(2);
      for (int o = 0; o < 5; o++) {
        call("mood", o, mood);
      }
      return;
    }
    if (isRough && random.nextInt(3) > 0) {
      manyOrigins();
      return;
    }
    int origin = in(0, 4);
    switch (random.nextInt(6)) {
      case 0: call("weigh", origin, in(0, 4)); break;
      case 1: call("offset", origin, random.nextBoolean() ? in(-50, 50) : 0); break;
      case 2: call("delay", origin, in(1, 5)); break;
      default: call("mood", origin, random.nextBoolean() ? 0 : in(0, 2)); break;
    }
  }

  private void storeCall() {
    switch (random.nextInt(10)) {
      case 0: call("room", in(0, 600)); break;
      case 1: call("purge", path()); break;
      case 2: call("flush"); break;
      case 3: call("entries"); break;
      case 4: call("selected", path(), lang(), coding()); break;
      case 5: call("entryBody", in(0, Math.max(0, model.store.size() - 1))); break;
      default: call("ofEntry", in(0, Math.max(0, model.store.size() - 1)), in(0, 15)); break;
    }
  }

  private void oddCall() {
    switch (random.nextInt(6)) {
      case 0: call("knock"); break;
      case 1: call("blank"); break;
      case 2: call("house", in(0, 21)); break;
      case 3: call("isSound"); break;
      case 4:
        call("again", in(0, Math.max(0, model.sents.size() - 1)));
        break;
      default: call("requestText", in(0, Math.max(0, model.sents.size() - 1))); break;
    }
  }

  private void lookAtFetch() {
    int fetch = in(0, Math.max(0, model.fetches.size() - 1));
    if (random.nextInt(3) == 0) {
      call("fetchText", fetch);
    } else {
      call("ofFetch", fetch, in(0, 10));
    }
  }

  private void lookAtOrigin() {
    switch (random.nextInt(4)) {
      case 0: call("order", path(), random.nextBoolean()); break;
      case 1: call("ifWeighed", in(0, 4), in(0, 4), in(0, 11)); break;
      case 2: call("hash", in(0, 9999)); break;
      default: call("ofOrigin", in(0, 4), in(0, 8)); break;
    }
  }

  private void lookAtPath() {
    switch (random.nextInt(4)) {
      case 0: call("body", path(), lang(), coding()); break;
      case 1: call("tag", path(), lang(), coding()); break;
      case 2: call("policyText", path()); break;
      default: call("ofPath", path(), in(0, 11)); break;
    }
  }
}
