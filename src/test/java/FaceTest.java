import java.io.IOException;
import java.lang.reflect.Constructor;
import java.lang.reflect.Field;
import java.lang.reflect.Method;
import java.lang.reflect.Modifier;
import java.nio.charset.StandardCharsets;
import java.nio.file.Files;
import java.nio.file.Path;
import java.util.Arrays;
import java.util.Set;
import java.util.TreeSet;
import java.util.regex.Matcher;
import java.util.regex.Pattern;

/** The document's face to the letter, and what of LANGUAGE.md can be read off the class and its text. */
public final class FaceTest {
  private static final String[] FACE = {
    "boolean canBook(int,int,int,int) IllegalArgumentException IndexOutOfBoundsException",
    "boolean canBookByMinutes(int,int,int,int) IllegalArgumentException IndexOutOfBoundsException",
    "boolean hold(int,boolean) IndexOutOfBoundsException",
    "boolean isRight(int) IndexOutOfBoundsException",
    "boolean reverse(int) IndexOutOfBoundsException",
    "boolean throwSwitch(int) IndexOutOfBoundsException",
    "int addTrain(int,boolean) IllegalStateException IndexOutOfBoundsException",
    "int addWaggon(int,int) IllegalArgumentException IllegalStateException IndexOutOfBoundsException",
    "int block(int) IndexOutOfBoundsException",
    "int book(int,int,int,int) IllegalArgumentException IllegalStateException IndexOutOfBoundsException",
    "int booking(int) IndexOutOfBoundsException",
    "int clock()",
    "int couple(int) IllegalStateException IndexOutOfBoundsException",
    "int delay(int,int) IllegalArgumentException IndexOutOfBoundsException",
    "int earned()",
    "int late(int) IndexOutOfBoundsException",
    "int leave(int) IllegalStateException IndexOutOfBoundsException",
    "int reaches(int,int) IndexOutOfBoundsException",
    "int run(int) IllegalArgumentException IllegalStateException",
    "int trainOn(int) IndexOutOfBoundsException",
    "int waggonAt(int,int) IndexOutOfBoundsException",
    "void offer(int,int,int,int) IllegalArgumentException IndexOutOfBoundsException",
  };

  private static final String[] RULED_OUT = {
    "->", "::", "\\bimport\\b", "\\bpackage\\b", "\\bsynchronized\\b", "\\bassert\\b", "\\bfinally\\b", "\\btry\\b",
    "\\bcatch\\b", "\\bhashCode\\b", "\\btoString\\b", "Exact\\b", "\\bSystem\\.(?!arraycopy)", "\\bThread\\b",
    "\\bRandom\\b", "\\bfloat\\b", "\\bdouble\\b", "\\bstatic\\s*\\{",
  };

  private FaceTest() {
  }

  public static void main(String[] args) throws IOException {
    constants();
    methods();
    members();
    for (Class<?> inside : Warpyard.class.getDeclaredClasses()) {
      classInside(inside);
    }
    text(Files.readString(Path.of("src/main/java/Warpyard.java"), StandardCharsets.ISO_8859_1));
    Check.end("FaceTest");
  }

  private static void constants() {
    Check.is("NONE", -1, () -> Warpyard.NONE);
    Check.is("OPEN", 0, () -> Warpyard.OPEN);
    Check.is("MET", 1, () -> Warpyard.MET);
    Check.is("BROKEN", 2, () -> Warpyard.BROKEN);
  }

  private static void methods() {
    Set<String> open = new TreeSet<>();
    Set<String> names = new TreeSet<>();
    for (Method method : Warpyard.class.getDeclaredMethods()) {
      if (Modifier.isPublic(method.getModifiers())) {
        open.add(signature(method));
        names.add(method.getName());
      }
    }
    Check.is("public methods", new TreeSet<>(Arrays.asList(FACE)), () -> open);
    for (Method method : Warpyard.class.getDeclaredMethods()) {
      if (!Modifier.isPublic(method.getModifiers())) {
        Check.is(method + " is private", true, () -> Modifier.isPrivate(method.getModifiers()));
        Check.is(method + " has a public name", false, () -> names.contains(method.getName()));
      }
    }
  }

  private static String signature(Method method) {
    StringBuilder text = new StringBuilder(method.getReturnType().getName());
    text.append(' ').append(method.getName()).append('(');
    for (int i = 0; i < method.getParameterCount(); i++) {
      text.append(i == 0 ? "" : ",").append(method.getParameterTypes()[i].getName());
    }
    text.append(')');
    Set<String> thrown = new TreeSet<>();
    for (Class<?> exception : method.getExceptionTypes()) {
      thrown.add(exception.getSimpleName());
    }
    for (String name : thrown) {
      text.append(' ').append(name);
    }
    return text.toString();
  }

  private static void members() {
    Check.is("public and final", true, () -> Modifier.isFinal(Warpyard.class.getModifiers()));
    Check.is("constructors", 1, () -> Warpyard.class.getDeclaredConstructors().length);
    for (Constructor<?> one : Warpyard.class.getDeclaredConstructors()) {
      Check.is("constructor", "public Warpyard()", () -> one.toString());
    }
    Set<String> open = new TreeSet<>();
    for (Field field : Warpyard.class.getDeclaredFields()) {
      if (!Modifier.isPrivate(field.getModifiers())) {
        open.add(field.toString());
      }
    }
    Set<String> due = new TreeSet<>();
    for (String name : new String[] {"NONE", "OPEN", "MET", "BROKEN"}) {
      due.add("public static final int Warpyard." + name);
    }
    Check.is("fields that are not private", due, () -> open);
    Check.is("few classes", true, () -> Warpyard.class.getDeclaredClasses().length <= 12);
    staticFieldsAreConstants(Warpyard.class);
  }

  private static void classInside(Class<?> inside) {
    Check.is(inside + " is static", true, () -> Modifier.isStatic(inside.getModifiers()));
    Check.is(inside + " is public", false, () -> Modifier.isPublic(inside.getModifiers()));
    staticFieldsAreConstants(inside);
    for (Method method : inside.getDeclaredMethods()) {
      Check.is(method + " takes at most 7", true, () -> method.getParameterCount() <= 7);
    }
  }

  private static void staticFieldsAreConstants(Class<?> one) {
    int own = 0;
    for (Field field : one.getDeclaredFields()) {
      if (Modifier.isStatic(field.getModifiers())) {
        Check.is(field + " is final", true, () -> Modifier.isFinal(field.getModifiers()));
      } else {
        own++;
      }
    }
    int fields = own;
    Check.is(one + " has few fields", true, () -> fields <= 20);
  }

  private static void text(String source) {
    Check.is("signs are 1 to 127", true, () -> source.chars().allMatch(sign -> sign > 0 && sign < 128));
    String code = source.replaceAll("(?s)/\\*.*?\\*/", " ").replaceAll("//[^\n]*", " ")
        .replaceAll("\"[^\"\n]*\"", "\"\"");
    for (String pattern : RULED_OUT) {
      Matcher matcher = Pattern.compile(pattern).matcher(code);
      Check.is("the text holds " + pattern, false, () -> matcher.find());
    }
    Check.is("texts are not joined by +", false, () -> Pattern.compile("\"\\s*\\+|\\+\\s*\"").matcher(code).find());
    constructorThrowsNothing(code);
  }

  private static void constructorThrowsNothing(String code) {
    int at = code.indexOf("public Warpyard()");
    Check.is("the constructor throws nothing", false,
        () -> code.substring(at, code.indexOf('}', at)).contains("throw"));
  }
}
