import java.lang.reflect.Constructor;
import java.lang.reflect.Field;
import java.lang.reflect.Member;
import java.lang.reflect.Method;
import java.lang.reflect.Modifier;
import java.util.Arrays;
import java.util.TreeSet;

/** The face of the class is that of the document, and nothing else can be seen of it. */
public final class FaceTest {
  private static final String[] FACE = {
    "int kind(int, int, int, int, int, int)",
    "int fall(int, int, int)",
    "int tangle(int, int)",
    "int shake(int)",
    "boolean person(boolean, boolean)",
    "int box(int)",
    "int pick(int, int)",
    "int put(int)",
    "int back()",
    "int close(int)",
    "int ofKind(int, int)",
    "int ofThing(int, int)",
    "int hinders(int, int)",
    "double force(int, int)",
    "double ticks(int, int)",
    "double clock()",
    "int seen(int, int)",
    "int ofBox(int, int)",
    "int many(int)",
    "int ahead(int)",
    "int next(int)",
    "int wouldFit(int, int)",
    "long digest()",
  };

  public static void main(String[] args) {
    TreeSet<String> due = new TreeSet<String>(Arrays.asList(FACE));
    TreeSet<String> got = new TreeSet<String>();
    TreeSet<String> names = new TreeSet<String>();
    for (Method method : PickCell.class.getDeclaredMethods()) {
      if (isSeen(method)) {
        names.add(method.getName());
        String types = Arrays.toString(method.getParameterTypes());
        got.add(method.getReturnType() + " " + method.getName() + "("
            + types.substring(1, types.length() - 1) + ")");
      }
    }
    Check.same("the methods of the face", got.toString(), due.toString());
    for (Method method : PickCell.class.getDeclaredMethods()) {
      boolean isHidden = !isSeen(method) && names.contains(method.getName());
      Check.same("a private method named " + method.getName(), isHidden, false);
    }
    for (Field field : PickCell.class.getDeclaredFields()) {
      Check.same("whether the field " + field.getName() + " is seen", isSeen(field), false);
    }
    Constructor<?>[] constructors = PickCell.class.getDeclaredConstructors();
    Check.same("the number of constructors", constructors.length, 1);
    Check.same("the constructor is public", Modifier.isPublic(constructors[0].getModifiers()), true);
    Check.same("the class is final", Modifier.isFinal(PickCell.class.getModifiers()), true);
    Check.end("FaceTest");
  }

  private static boolean isSeen(Member member) {
    return !Modifier.isPrivate(member.getModifiers()) && !member.isSynthetic();
  }
}
