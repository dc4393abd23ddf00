import java.lang.reflect.Array;
import java.lang.reflect.Constructor;
import java.lang.reflect.Field;
import java.lang.reflect.Method;
import java.lang.reflect.Modifier;
import java.nio.file.Files;
import java.nio.file.Path;
import java.util.ArrayList;
import java.util.Collections;
import java.util.IdentityHashMap;
import java.util.List;
import java.util.Set;
import java.util.TreeSet;
import java.util.regex.Matcher;
import java.util.regex.Pattern;

/** The face of the document, and those rules of LANGUAGE.md that can be seen from the class or its text. */
public final class LanguageTest {
  private static final Checks c = new Checks("LanguageTest");
  /** As the document says it: name(types):type. */
  private static final Set<String> FACE = new TreeSet<>();

  public static void main(String[] args) throws Exception {
    readFace(Files.readString(Path.of("../shared/DOC.md")));
    theFace();
    List<Class<?>> all = new ArrayList<>(List.of(SoldHouse.class.getDeclaredClasses()));
    c.due("at most some twelve classes", all.size() < 12, true);
    all.add(SoldHouse.class);
    for (Class<?> one : all) theClass(one);
    theText(Files.readString(Path.of("src/main/java/SoldHouse.java")));
    theRoomItTakes();
    c.finish();
  }

  private static void readFace(String document) {
    int start = document.indexOf("```java");
    String face = document.substring(start, document.indexOf("```", start + 3));
    Matcher row = Pattern.compile("public (int|boolean) (\\w+)\\((.*?)\\);").matcher(face);
    while (row.find()) FACE.add(row.group(2) + "(" + row.group(3).replaceAll(" \\w+(,|$)", "$1").replace(" ", "") + "):" + row.group(1));
    c.due("so many methods in the document", FACE.size(), 50);
    c.due("NONE in the document", face.contains("public static final int NONE = -1;"), true);
    c.due("NONE", SoldHouse.NONE, -1);
  }

  private static String nameOf(Method m) {
    List<String> types = new ArrayList<>();
    for (Class<?> t : m.getParameterTypes()) types.add(t.getName());
    return m.getName() + "(" + String.join(",", types) + "):" + m.getReturnType().getName();
  }

  private static void theFace() {
    Class<?> face = SoldHouse.class;
    c.due("public and final", face.getModifiers(), Modifier.PUBLIC | Modifier.FINAL);
    Set<String> got = new TreeSet<>();
    for (Method m : face.getDeclaredMethods()) {
      if (!Modifier.isPrivate(m.getModifiers())) {
        got.add(nameOf(m));
        c.due(m + " is public alone", m.getModifiers(), Modifier.PUBLIC);
      }
    }
    c.due("the methods " + FACE + " are " + got, got.equals(FACE), true);
    Constructor<?>[] made = face.getDeclaredConstructors();
    c.due("one constructor", made.length, 1);
    c.due("it is public", made[0].getModifiers(), Modifier.PUBLIC);
    for (Field f : face.getDeclaredFields()) {
      c.due(f + " is NONE or private", f.getName().equals("NONE") || Modifier.isPrivate(f.getModifiers()), true);
    }
  }

  private static void theClass(Class<?> one) {
    Set<String> open = new TreeSet<>();
    for (String m : FACE) open.add(m.substring(0, m.indexOf('(')));
    int fields = 0;
    for (Field f : one.getDeclaredFields()) {
      if (Modifier.isStatic(f.getModifiers())) {
        c.due(f + " is final", Modifier.isFinal(f.getModifiers()), true);
      } else {
        fields++;
      }
    }
    c.due(one + " has few fields", fields <= 20, true);
    c.due(one + " is static or the face", one == SoldHouse.class || Modifier.isStatic(one.getModifiers()), true);
    for (Method m : one.getDeclaredMethods()) {
      boolean face = one == SoldHouse.class && Modifier.isPublic(m.getModifiers());
      c.due(m + " has a name of its own", face || !open.contains(m.getName()), true);
      c.due(m + " takes seven at most", m.getParameterCount() <= 7, true);
    }
  }

  private static void theText(String source) {
    String code = source.replaceAll("(?s)/\\*.*?\\*/", "").replaceAll("//.*", "")
        .replaceAll("\"[^\"\n]*\"", "\"\"").replaceAll("'[^'\n]*'", "' '");
    String[] words = {"throw", "throws", "try", "catch", "finally", "synchronized", "assert", "package", "protected", "double",
        "float", "native", "volatile", "Object", "Thread", "Random", "record", "goto", "toString", "hashCode"};
    for (String word : words) {
      c.due("no " + word, Pattern.compile("\\b" + word + "\\b").matcher(code).find(), false);
    }
    for (String sign : new String[] {"->", "::", "@", "Exact", "static {", "\"\" +", "+ \"\""}) {
      c.due("no " + sign, code.contains(sign), false);
    }
    Matcher imports = Pattern.compile("import ([\\w.]+);").matcher(code);
    while (imports.find()) c.due("import " + imports.group(1), imports.group(1).equals("java.util.Arrays"), true);
    Set<String> library = new TreeSet<>();
    Matcher used = Pattern.compile("\\b(Arrays|System|Integer|Math|Long)\\.(\\w+)").matcher(code);
    while (used.find()) library.add(used.group());
    library.removeAll(List.of("Arrays.fill", "System.arraycopy", "Integer.bitCount", "Math.max", "Math.min"));
    c.due("of the library " + library, library.size(), 0);
    for (char sign : source.toCharArray()) c.due("a sign", sign < 127, true);
    methodsAreShort(source.split("\n"));
    onlyMakingMakes(code.split("\n"));
  }

  /** All objects of a run share one room of 600,000 objects and 7.3 million elements: one object is to take little of it. */
  private static void theRoomItTakes() throws IllegalAccessException {
    Set<Object> found = Collections.newSetFromMap(new IdentityHashMap<>());
    long elements = measure(new SoldHouse(), found);
    c.due("objects and arrays: " + found.size(), found.size() < 200, true);
    c.due("fields and elements: " + elements, elements < 10000, true);
  }

  private static long measure(Object one, Set<Object> found) throws IllegalAccessException {
    if (one == null || one instanceof String || !found.add(one)) return 0;
    Class<?> type = one.getClass();
    long elements = 0;
    if (type.isArray()) {
      int length = Array.getLength(one);
      elements = length;
      for (int i = 0; i < length && !type.getComponentType().isPrimitive(); i++) elements += measure(Array.get(one, i), found);
      return elements;
    }
    for (Field field : type.getDeclaredFields()) {
      if (Modifier.isStatic(field.getModifiers())) continue;
      field.setAccessible(true);
      elements += 1 + (field.getType().isPrimitive() ? 0 : measure(field.get(one), found));
    }
    return elements;
  }

  /** All calls of a run share one room: rows are made with the object, and no call makes any. */
  private static void onlyMakingMakes(String[] lines) {
    for (String line : lines) {
      if (line.contains("new ")) {
        boolean field = line.matches("\\s+(private |final )+.*= new .*") || line.trim().equals("tokens = new Tokens(tape);");
        c.due(line.trim() + " is a field's", field, true);
      }
    }
  }

  private static void methodsAreShort(String[] lines) {
    for (int i = 0; i < lines.length; i++) {
      Matcher head = Pattern.compile("^( {4}| {8})(?!private static final class)\\S.*\\) \\{$").matcher(lines[i]);
      if (!head.find() || lines[i].contains(" if (") || lines[i].contains(" for (")) continue;
      int end = i;
      while (end < lines.length && !lines[end].equals(head.group(1) + "}")) end++;
      c.due(lines[i].trim() + " is short", end - i <= 60, true);
    }
  }
}
