import java.lang.reflect.Field;
import java.lang.reflect.Method;
import java.lang.reflect.Modifier;
import java.util.HashSet;
import java.util.Set;

/** The face has what the document names and nothing more; no private method bears a public one's name. */
public final class FaceTest {
  private static final Check CHECK = new Check();

  public static void main(String[] args) {
    CHECK.part("the public face");
    Set<String> names = new HashSet<>();
    int methods = 0;
    for (Method m : Cachefront.class.getDeclaredMethods()) {
      if (Modifier.isPublic(m.getModifiers())) {
        methods++;
        names.add(m.getName());
      } else {
        CHECK.same(m.getName() + " is private", Modifier.isPrivate(m.getModifiers()) || m.isSynthetic(), true);
      }
    }
    CHECK.same("methods of the document", methods, 58);
    CHECK.same("final", Modifier.isFinal(Cachefront.class.getModifiers()), true);
    CHECK.same("constructors", Cachefront.class.getConstructors().length, 1);
    ofClass(Cachefront.class, names);
    for (Class<?> inside : Cachefront.class.getDeclaredClasses()) {
      CHECK.same(inside.getName() + " is static", Modifier.isStatic(inside.getModifiers()), true);
      CHECK.same(inside.getName() + " is not public", Modifier.isPublic(inside.getModifiers()), false);
      ofClass(inside, names);
    }
    CHECK.end();
  }

  private static void ofClass(Class<?> of, Set<String> names) {
    for (Method m : of.getDeclaredMethods()) {
      boolean isSame = Modifier.isPrivate(m.getModifiers()) && names.contains(m.getName());
      CHECK.same(of.getName() + "." + m.getName() + " bears a public name", isSame, false);
    }
    int fields = 0;
    for (Field f : of.getDeclaredFields()) {
      if (Modifier.isStatic(f.getModifiers())) {
        CHECK.same(f.getName() + " is final", Modifier.isFinal(f.getModifiers()), true);
      } else {
        fields++;
      }
      if (of == Cachefront.class) {
        CHECK.same(f.getName() + " is private", Modifier.isPrivate(f.getModifiers()), true);
      }
    }
    CHECK.same(of.getName() + " has some twenty fields at most", fields <= 20, true);
  }
}
