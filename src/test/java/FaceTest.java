import java.lang.reflect.Constructor;
import java.lang.reflect.Field;
import java.lang.reflect.Method;
import java.lang.reflect.Modifier;
import java.util.Set;
import java.util.TreeSet;

/** The class shows the constants, the constructor and the methods of the document, and nothing else. */
public final class FaceTest {
  private static final String[] FACE = {
    "public static final int CoverKeys.NONE",
    "public CoverKeys()",
    "public void CoverKeys.begin(int,long,long) throws java.lang.IllegalArgumentException",
    "public int CoverKeys.install(int) throws java.lang.IndexOutOfBoundsException,java.lang.IllegalStateException",
    "public boolean CoverKeys.subscribe(int,int,boolean) throws java.lang.IndexOutOfBoundsException",
    "public int CoverKeys.period(int,long,long) throws java.lang.IndexOutOfBoundsException,"
        + "java.lang.UnsupportedOperationException",
    "public int CoverKeys.packet(int,int) throws java.lang.IndexOutOfBoundsException,"
        + "java.lang.IllegalStateException,java.lang.IllegalArgumentException",
    "public int CoverKeys.air(int) throws java.lang.IndexOutOfBoundsException",
    "public void CoverKeys.flip(int,int) throws java.lang.IndexOutOfBoundsException",
    "public int CoverKeys.hear(int) throws java.lang.IndexOutOfBoundsException,java.lang.IllegalStateException",
    "public int CoverKeys.has(int,int) throws java.lang.IndexOutOfBoundsException",
    "public void CoverKeys.seal(int,long,long,long) throws java.lang.IndexOutOfBoundsException,"
        + "java.lang.IllegalStateException",
    "public void CoverKeys.open(int,int,long,long,long) throws java.lang.IndexOutOfBoundsException,"
        + "java.lang.IllegalStateException",
    "public long CoverKeys.out(boolean)",
    "public int CoverKeys.subset(int,int,boolean) throws java.lang.IllegalStateException,"
        + "java.lang.IndexOutOfBoundsException",
    "public long CoverKeys.label(int,int,int) throws java.lang.IndexOutOfBoundsException,"
        + "java.lang.IllegalStateException,java.lang.IllegalArgumentException",
    "public int CoverKeys.reach(int,int) throws java.lang.IndexOutOfBoundsException,java.lang.IllegalStateException",
    "public long CoverKeys.key(int,int,boolean) throws java.lang.IllegalArgumentException",
    "public int CoverKeys.count(int) throws java.lang.IllegalArgumentException",
  };

  public static void main(String[] args) {
    Set<String> shown = new TreeSet<>();
    Set<String> names = new TreeSet<>();
    boolean right = Modifier.isPublic(CoverKeys.class.getModifiers()) && Modifier.isFinal(CoverKeys.class.getModifiers());
    for (Field f : CoverKeys.class.getDeclaredFields()) {
      if (!Modifier.isPrivate(f.getModifiers())) shown.add(f.toString());
    }
    for (Constructor<?> c : CoverKeys.class.getDeclaredConstructors()) {
      if (!Modifier.isPrivate(c.getModifiers())) shown.add(c.toString());
    }
    for (Method m : CoverKeys.class.getDeclaredMethods()) {
      if (!Modifier.isPrivate(m.getModifiers())) shown.add(m.toString());
      if (!names.add(m.getName())) {
        System.out.println("two methods bear the name " + m.getName());
        right = false;
      }
    }
    Set<String> due = new TreeSet<>(Set.of(FACE));
    if (!shown.equals(due)) {
      System.out.println("shown: " + shown);
      System.out.println("due: " + due);
      right = false;
    }
    System.out.println(right ? "the face is as due" : "the face is not as due");
    if (!right) System.exit(1);
  }
}
