import java.lang.reflect.Constructor;
import java.lang.reflect.Field;
import java.lang.reflect.Method;
import java.lang.reflect.Modifier;
import java.util.ArrayList;
import java.util.Arrays;
import java.util.List;
import java.util.TreeSet;
import java.util.stream.Collectors;

/** The public face is the document's, and nothing else can be seen (LANGUAGE.md, rules 1, 2, 5, 11). */
public final class FaceTest {
  private static final String[] FACE = {
    "int hill(int, int)", "int ofHill(int, int)", "int wind(int, int)", "int kite(int, int, int)",
    "int ofKite(int, int)", "int as(int, int)", "int aim(int, int)", "int pull(int, int, int)",
    "int stands(int, int, int)", "int over(int, int, int)", "int feed(long, int)", "int text(int)",
    "int law(int, int, int, int, int)", "int cross(int, int)", "int lines(int)",
    "int letter(int, int, int, int)", "int ofLetter(int, int)", "int hours(int)", "int loose(int, int)",
    "int then(int, int)", "int where(int, int, int)", "int soonest(int, int, int)",
    "long sure(int, int, int, int)", "int best(int, int)", "int fresh(int, int, int, int)",
    "int order(int, int)", "int before()", "int seed(int)", "int voice(int, int, int)", "int trace(int)",
    "int sheet(int, int, int)", "int put(int, int, int)", "int move(int, int, int, int, int)",
    "int winds(int)", "int image()", "int restore()", "int tell(int)", "int check(int)", "int count(int)",
    "int told(int)"
  };

  private static final Due due = new Due();

  public static void main(String[] args) {
    publicFace();
    nothingElseIsSeen();
    classesInside();
    due.end();
  }

  private static String faceOf(Method m) {
    String parameters = Arrays.stream(m.getParameterTypes()).map(Class::getName).collect(Collectors.joining(", "));
    return m.getReturnType().getName() + " " + m.getName() + "(" + parameters + ")";
  }

  private static void publicFace() {
    TreeSet<String> seen = new TreeSet<>();
    for (Method m : KitePost.class.getDeclaredMethods()) {
      if (Modifier.isPublic(m.getModifiers())) {
        seen.add(faceOf(m));
        due.holds(m.getName() + " is no static one", !Modifier.isStatic(m.getModifiers()));
      }
    }
    TreeSet<String> want = new TreeSet<>(Arrays.asList(FACE));
    due.holds("the face is " + want + ", seen " + seen, seen.equals(want));
    int modifiers = KitePost.class.getModifiers();
    due.holds("public and final", Modifier.isPublic(modifiers) && Modifier.isFinal(modifiers));
    Constructor<?>[] constructors = KitePost.class.getDeclaredConstructors();
    due.holds("one public constructor without parameters",
        constructors.length == 1 && constructors[0].getParameterCount() == 0 && Modifier.isPublic(constructors[0].getModifiers()));
  }

  private static void nothingElseIsSeen() {
    for (Method m : KitePost.class.getDeclaredMethods()) {
      due.holds(m + " is public or private", (m.getModifiers() & (Modifier.PUBLIC | Modifier.PRIVATE)) != 0);
    }
    for (Field f : KitePost.class.getDeclaredFields()) {
      due.holds(f + " is private", Modifier.isPrivate(f.getModifiers()));
    }
  }

  private static void classesInside() {
    List<String> publicNames = new ArrayList<>();
    for (String face : FACE) {
      publicNames.add(face.substring(face.indexOf(' ') + 1, face.indexOf('(')));
    }
    List<Class<?>> all = new ArrayList<>(List.of(KitePost.class));
    all.addAll(List.of(KitePost.class.getDeclaredClasses()));
    due.holds("at most twelve classes", all.size() <= 12);
    for (Class<?> one : all) {
      due.holds(one + " is static", one == KitePost.class || Modifier.isStatic(one.getModifiers()));
      int fields = 0;
      for (Field f : one.getDeclaredFields()) {
        boolean isStatic = Modifier.isStatic(f.getModifiers());
        due.holds(f + " is final, if static", !isStatic || Modifier.isFinal(f.getModifiers()));
        fields += isStatic ? 0 : 1;
      }
      due.holds(one + " has at most twenty fields", fields <= 20);
      for (Method m : one.getDeclaredMethods()) {
        due.holds(m + " takes at most seven", m.getParameterCount() <= 7);
        boolean isFace = one == KitePost.class && Modifier.isPublic(m.getModifiers());
        due.holds(m + " has no name of the face", isFace || !publicNames.contains(m.getName()));
      }
    }
  }
}
