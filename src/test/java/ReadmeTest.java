import java.io.ByteArrayOutputStream;
import java.io.IOException;
import java.io.PrintStream;
import java.lang.reflect.Method;
import java.lang.reflect.Modifier;
import java.nio.charset.StandardCharsets;
import java.nio.file.Files;
import java.nio.file.Path;

/** What README.md shows is what the class does; run from the project's directory. */
public final class ReadmeTest {
  private static boolean right = true;

  public static void main(String[] args) throws IOException {
    String readme = Files.readString(Path.of("README.md"));
    same("the program", block(readme, "java"), Files.readString(Path.of("src/test/java/Example.java")));
    same("what it prints", block(readme, "text"), printed());
    for (Method m : CoverKeys.class.getDeclaredMethods()) {
      if (Modifier.isPublic(m.getModifiers()) && !readme.contains("\n| `" + m.getName() + "(")) {
        tell(m.getName() + " is not told");
      }
    }
    System.out.println(right ? "README.md is right" : "README.md is wrong");
    if (!right) System.exit(1);
  }

  private static String block(String readme, String kind) {
    String begin = "\n```" + kind + "\n";
    int from = readme.indexOf(begin);
    int to = readme.indexOf("\n```\n", from + begin.length());
    return from < 0 || to < 0 ? "no block of this kind" : readme.substring(from + begin.length(), to + 1);
  }

  private static String printed() {
    PrintStream console = System.out;
    ByteArrayOutputStream bytes = new ByteArrayOutputStream();
    System.setOut(new PrintStream(bytes, true, StandardCharsets.UTF_8));
    Example.main(new String[0]);
    System.setOut(console);
    return bytes.toString(StandardCharsets.UTF_8).replace(System.lineSeparator(), "\n");
  }

  private static void same(String what, String shown, String due) {
    if (!shown.equals(due)) tell(what + ":\n" + shown + "due is:\n" + due);
  }

  private static void tell(String what) {
    right = false;
    System.out.println(what);
  }
}
