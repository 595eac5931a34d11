import java.io.IOException;
import java.lang.management.ManagementFactory;
import java.lang.reflect.Field;
import java.lang.reflect.Modifier;
import java.nio.file.Files;
import java.nio.file.Path;
import java.util.regex.Pattern;

/** Rules of LANGUAGE.md that a program can look at: the classes inside, forbidden words, and what the calls make. */
public final class LanguageRules {
  public static void main(String[] args) throws IOException {
    nested();
    words();
    room();
    Script.end();
  }

  private static void nested() {
    for (Class<?> c : MobileCall.class.getDeclaredClasses()) {
      int modifiers = c.getModifiers();
      Script.due(c + " is static", Modifier.isStatic(modifiers), true);
      Script.due(c + " is hidden", Modifier.isPublic(modifiers) || Modifier.isProtected(modifiers), false);
      for (Field f : c.getDeclaredFields()) {
        Script.due(f + " is no changing static", Modifier.isStatic(f.getModifiers())
            && !Modifier.isFinal(f.getModifiers()), false);
      }
    }
  }

  private static void words() throws IOException {
    String source = Files.readString(Path.of("src/main/java/MobileCall.java"));
    String code = source.replaceAll("(?s)/\\*.*?\\*/", "").replaceAll("//[^\n]*", "");
    for (String word : new String[] {"throw", "throws", "try", "catch", "synchronized", "assert", "import", "package",
        "System", "Random", "Thread", "instanceof", "hashCode", "toString", "equals", "protected", "volatile"}) {
      Script.due("the word " + word, Pattern.compile("\\b" + word + "\\b").matcher(code).find(), false);
    }
    Script.due("no lambda", code.contains("->") || code.contains("::"), false);
  }

  /** Calls make nothing: all that a run needs is made by the constructor. */
  private static void room() {
    com.sun.management.ThreadMXBean threads =
        (com.sun.management.ThreadMXBean) ManagementFactory.getThreadMXBean();
    long id = Thread.currentThread().getId();
    everyCall(new MobileCall(5, 5, 1));
    MobileCall x = new MobileCall(5, 5, 1);
    long unused = threads.getThreadAllocatedBytes(id);
    long before = threads.getThreadAllocatedBytes(id);
    long asking = before - unused;
    everyCall(x);
    long made = threads.getThreadAllocatedBytes(id) - before - asking;
    Script.due("bytes that calls make, " + made + ", are none", made < 64, true);
  }

  private static void everyCall(MobileCall x) {
    x.power(true);
    for (int k = 0; k < 10; k++) {
      x.update(k);
      register(x);
      x.dial(4711, 4);
      register(x);
      x.carry(0);
      x.carry(1);
      x.alert();
      x.answer();
      x.carry(1);
      x.carry(1);
      x.carry(0);
      x.digit(0);
      x.byteOf(0, 0, 0);
      x.forge(0, 0x0909L, 2);
      x.spoil(0, 0, 1);
      x.lose(0);
      x.told(k);
      x.accept(3);
      x.clear(3);
      x.hang();
      x.tick(100);
      x.radio(false);
      x.radio(true);
    }
  }

  private static void register(MobileCall x) {
    x.carry(0);
    x.carry(1);
    x.carry(0);
    x.carry(1);
  }
}
