import java.lang.reflect.Constructor;
import java.lang.reflect.Field;
import java.lang.reflect.Method;
import java.lang.reflect.Modifier;
import java.nio.file.Files;
import java.nio.file.Path;
import java.util.ArrayList;
import java.util.List;
import java.util.TreeSet;
import java.util.regex.Matcher;
import java.util.regex.Pattern;

/** The class has the face of the document, to the letter, and nothing beside it. */
public final class FaceTest {
  public static void main(String[] args) throws Exception {
    String doc = Files.readString(Path.of("../shared/DOC.md"));
    String face = doc.substring(doc.indexOf("```java"), doc.indexOf("```", doc.indexOf("```java") + 7));
    TreeSet<String> want = new TreeSet<>();
    Matcher line = Pattern.compile("public (\\w+) (\\w+)\\((.*?)\\)( throws (.*?))?;").matcher(face);
    while (line.find()) {
      List<String> types = new ArrayList<>();
      for (String parameter : line.group(3).split(", ")) {
        types.add(parameter.split(" ")[0]);
      }
      String throwing = line.group(5) == null ? "" : line.group(5);
      want.add(line.group(1) + " " + line.group(2) + "(" + String.join(",", types) + ") " + throwing);
    }
    TreeSet<String> got = new TreeSet<>();
    TreeSet<String> publicNames = new TreeSet<>();
    for (Method method : Locihall.class.getDeclaredMethods()) {
      if (Modifier.isPublic(method.getModifiers())) {
        got.add(told(method));
        publicNames.add(method.getName());
      }
    }
    Due.same("the number of public methods", want.size(), 52);
    Due.same("the public methods", got, want);
    Due.is("public and final", Modifier.isPublic(Locihall.class.getModifiers()) && Modifier.isFinal(Locihall.class.getModifiers()));
    Constructor<?>[] made = Locihall.class.getDeclaredConstructors();
    Due.is("one public constructor without parameters", made.length == 1 && Modifier.isPublic(made[0].getModifiers()) && made[0].getParameterCount() == 0);
    for (Field field : Locihall.class.getDeclaredFields()) {
      Due.is("private field " + field.getName(), Modifier.isPrivate(field.getModifiers()));
    }
    checkPrivate(Locihall.class, publicNames);
    Class<?>[] inside = Locihall.class.getDeclaredClasses();
    Due.is("at most twelve classes", inside.length < 12);
    for (Class<?> inner : inside) {
      Due.is("static and not public: " + inner.getName(), Modifier.isStatic(inner.getModifiers()) && !Modifier.isPublic(inner.getModifiers()));
      Due.is("some twenty fields: " + inner.getName(), inner.getDeclaredFields().length <= 20);
      checkPrivate(inner, publicNames);
    }
    Due.end();
  }

  private static void checkPrivate(Class<?> owner, TreeSet<String> publicNames) {
    for (Method method : owner.getDeclaredMethods()) {
      if (!Modifier.isPublic(method.getModifiers())) {
        Due.is("private method " + method.getName(), Modifier.isPrivate(method.getModifiers()));
        Due.is("a name of its own: " + method.getName(), !publicNames.contains(method.getName()));
        Due.is("at most seven parameters: " + method.getName(), method.getParameterCount() <= 7);
      }
    }
  }

  private static String told(Method method) {
    List<String> types = new ArrayList<>();
    for (Class<?> type : method.getParameterTypes()) {
      types.add(type.getSimpleName());
    }
    List<String> thrown = new ArrayList<>();
    for (Class<?> type : method.getExceptionTypes()) {
      thrown.add(type.getSimpleName());
    }
    String parameters = String.join(",", types);
    return method.getReturnType().getSimpleName() + " " + method.getName() + "(" + parameters + ") " + String.join(", ", thrown);
  }
}
