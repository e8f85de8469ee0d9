import java.lang.reflect.Constructor;
import java.lang.reflect.Field;
import java.lang.reflect.Method;
import java.lang.reflect.Modifier;
import java.util.Arrays;
import java.util.TreeSet;

/** The face is the document's, and nothing else can be reached from outside. */
public final class FaceTest {
  private static final String[] FACE = {
    "int district(int,int)", "int road(int,int,int)", "int far(int,int)",
    "int weather(int,int,boolean)", "long sky(int,int,boolean) IllegalArgumentException",
    "int price(int)", "int holder(int,int,int)", "int gives(int,int,int)", "int field(int,int)",
    "int goal(int,int,int)", "int about(int,int)", "int fault(int)", "int law(int)",
    "int force(int,int,int)", "int may(int,int,int)", "int shut(int)", "int go(int)",
    "int record(int,int)", "int read(int,int)", "int sends(int)", "int cart(int,int)",
    "int brings(int,int,int)", "int relief(int,int)", "int coin(int,int,int)",
    "int turn(int,int,int)", "int turning(int,int)", "int turned(int,int,int)",
    "int behind(int,int)", "int worst(int,int,int,int)", "int best(int,int,int)", "int image()",
    "int restore()", "int count(int)", "int keep(int,int,int)", "int row(int,int,int)",
    "int put(int,int,int)",
    "long element(int,int) IllegalArgumentException IllegalStateException",
    "int copy(int,int,int,int,int)", "int weight(int)", "int toss(int)"};

  private static final Check c = new Check();

  public static void main(String[] args) {
    int modifiers = NoSummer.class.getModifiers();
    c.due(1, "public", Modifier.isPublic(modifiers) ? 1 : 0, 1);
    c.due(1, "final", Modifier.isFinal(modifiers) ? 1 : 0, 1);
    Constructor<?>[] constructors = NoSummer.class.getDeclaredConstructors();
    c.due(1, "constructors", constructors.length, 1);
    c.due(1, "parameters", constructors[0].getParameterCount(), 0);
    c.due(1, "public constructor", Modifier.isPublic(constructors[0].getModifiers()) ? 1 : 0, 1);
    methods();
    for (Field field : NoSummer.class.getDeclaredFields()) {
      c.due(1, "private " + field.getName(), Modifier.isPrivate(field.getModifiers()) ? 1 : 0, 1);
    }
    rules(NoSummer.class);
    for (Class<?> inside : NoSummer.class.getDeclaredClasses()) {
      c.due(1, "static " + inside.getName(), Modifier.isStatic(inside.getModifiers()) ? 1 : 0, 1);
      c.due(1, "private " + inside.getName(), Modifier.isPrivate(inside.getModifiers()) ? 1 : 0, 1);
      rules(inside);
    }
    c.due(1, "some twelve classes", NoSummer.class.getDeclaredClasses().length <= 12 ? 1 : 0, 1);
    c.end("FaceTest");
  }

  private static void methods() {
    TreeSet<String> due = new TreeSet<>(Arrays.asList(FACE));
    TreeSet<String> found = new TreeSet<>();
    TreeSet<String> names = new TreeSet<>();
    for (Method method : NoSummer.class.getDeclaredMethods()) {
      if (!Modifier.isPrivate(method.getModifiers())) {
        found.add(signature(method));
        names.add(method.getName());
      }
    }
    for (String signature : due) {
      c.due(1, "there is " + signature, found.contains(signature) ? 1 : 0, 1);
    }
    c.due(1, "no others", found.size(), due.size());
    for (Method method : NoSummer.class.getDeclaredMethods()) {
      if (Modifier.isPrivate(method.getModifiers())) {
        c.due(1, "no public name for " + method.getName(),
            names.contains(method.getName()) ? 1 : 0, 0);
      }
    }
  }

  private static String signature(Method method) {
    StringBuilder s = new StringBuilder();
    s.append(method.getReturnType().getName()).append(' ').append(method.getName()).append('(');
    Class<?>[] types = method.getParameterTypes();
    for (int i = 0; i < types.length; i++) {
      s.append(i == 0 ? "" : ",").append(types[i].getName());
    }
    s.append(')');
    for (Class<?> thrown : method.getExceptionTypes()) {
      s.append(' ').append(thrown.getSimpleName());
    }
    return s.toString();
  }

  /** Rule 5 (static fields are final) and rule 11 (parameters, fields). */
  private static void rules(Class<?> type) {
    int fields = 0;
    for (Field field : type.getDeclaredFields()) {
      if (Modifier.isStatic(field.getModifiers())) {
        c.due(1, "final " + field.getName(), Modifier.isFinal(field.getModifiers()) ? 1 : 0, 1);
      } else {
        fields++;
      }
    }
    c.due(1, "some twenty fields in " + type.getName(), fields <= 20 ? 1 : 0, 1);
    for (Method method : type.getDeclaredMethods()) {
      c.due(1, "parameters of " + method.getName(), method.getParameterCount() <= 7 ? 1 : 0, 1);
    }
  }
}
