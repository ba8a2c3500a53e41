import java.lang.reflect.Constructor;
import java.lang.reflect.Field;
import java.lang.reflect.Method;
import java.lang.reflect.Modifier;
import java.util.Set;
import java.util.TreeSet;

/** The public face: the class of the document has what it tells, and nothing else that is not private. */
public final class FaceTest extends Due {
  private static final String[] FACE = {
    "int feed 1", "int town 0", "int personOf 2", "int person 3", "int sets 3", "int trusts 2", "int lights 1",
    "int gives 3", "int hours 1", "int nights 1", "int back 0", "int behind 3", "int all 2", "int lasts 1",
    "int longest 1", "int give 3", "int bestFriend 2", "int both 3", "int borrow 1", "int night 3",
    "int nightOfAll 2", "int trust 2", "int safe 2", "int relay 1", "int tax 2", "int hide 1", "int whatHeHolds 2",
    "int whoGave 1", "int halve 2", "long draft 4", "int shares 1", "int richest 1", "long mean 1", "int apart 0",
    "int ring 1", "int above 1", "int trusted 1", "int unlit 0", "int gap 1", "int same 0", "int row 1",
    "int judge 0", "int clear 0", "int lots 3", "int image 0", "int restore 0", "int count 1"
  };

  public static void main(String[] args) {
    Class<FasterForTheRich> type = FasterForTheRich.class;
    dueTrue("public", Modifier.isPublic(type.getModifiers()));
    dueTrue("final", Modifier.isFinal(type.getModifiers()));
    Set<String> face = new TreeSet<>(java.util.List.of(FACE));
    due("47 methods", face.size(), 47);
    Set<String> names = new TreeSet<>();
    Set<String> found = new TreeSet<>();
    for (Method method : type.getDeclaredMethods()) {
      if (method.isSynthetic() || Modifier.isPrivate(method.getModifiers())) continue;
      for (Class<?> argument : method.getParameterTypes()) dueTrue(method + ": int", argument == int.class);
      dueTrue(method + ": public", Modifier.isPublic(method.getModifiers()));
      dueTrue(method + ": no static", !Modifier.isStatic(method.getModifiers()));
      found.add(method.getReturnType() + " " + method.getName() + " " + method.getParameterCount());
      names.add(method.getName());
    }
    dueTrue("the face is " + face + ", not " + found, face.equals(found));
    for (Method method : type.getDeclaredMethods()) {
      boolean isPrivate = Modifier.isPrivate(method.getModifiers());
      dueTrue(method + ": no private one bears a public one's name", !isPrivate || !names.contains(method.getName()));
    }
    for (Field field : type.getDeclaredFields()) dueTrue(field + ": private", Modifier.isPrivate(field.getModifiers()));
    due("one constructor", type.getDeclaredConstructors().length, 1);
    for (Constructor<?> made : type.getDeclaredConstructors()) {
      dueTrue("public", Modifier.isPublic(made.getModifiers()) && made.getParameterCount() == 0);
    }
    for (Class<?> inside : type.getDeclaredClasses()) {
      dueTrue(inside + ": static", Modifier.isStatic(inside.getModifiers()));
      dueTrue(inside + ": not public", !Modifier.isPublic(inside.getModifiers()));
    }
    end();
  }
}
