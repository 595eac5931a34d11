import java.lang.reflect.Constructor;
import java.lang.reflect.Field;
import java.lang.reflect.Method;
import java.lang.reflect.Modifier;
import java.util.Arrays;
import java.util.Set;
import java.util.TreeSet;
import java.util.stream.Collectors;

/** The public face: the class, its names, constants and constructor, and nothing besides. */
public final class PublicFace {
  private static final Set<String> METHODS = new TreeSet<>(Set.of("power(boolean) int", "update(int) int",
      "dial(int,int) int", "hang() int", "alert() int", "answer() int", "clear(int) int", "accept(int) int",
      "radio(boolean) int", "carry(int) int", "lose(int) int", "spoil(int,int,int) int", "forge(int,long,int) int",
      "tick(int) int", "told(int) int", "byteOf(int,int,int) int", "digit(int) int"));

  public static void main(String[] args) {
    Script.due("'public final class'", MobileCall.class.getModifiers(), Modifier.PUBLIC | Modifier.FINAL);
    Script.due("no class above it", MobileCall.class.getSuperclass(), Object.class);
    Script.due("no interfaces", MobileCall.class.getInterfaces().length, 0);
    Script.due("no package", MobileCall.class.getPackageName(), "");
    constants();
    constructor();
    methods();
    Script.end();
  }

  private static void constants() {
    Script.due("BAD", MobileCall.BAD, -1);
    Script.due("NOT_SO", MobileCall.NOT_SO, -2);
    Script.due("NONE", MobileCall.NONE, -3);
    Script.due("constants for a switch", name(-1) + name(-2) + name(-3), "BAD NOT_SO NONE ");
    Set<String> seen = new TreeSet<>();
    for (Field f : MobileCall.class.getDeclaredFields()) {
      if (!Modifier.isPrivate(f.getModifiers())) {
        seen.add(Modifier.toString(f.getModifiers()) + " " + f.getType() + " " + f.getName());
      }
    }
    Script.due("the constants", seen, new TreeSet<>(Set.of("public static final int BAD",
        "public static final int NOT_SO", "public static final int NONE")));
  }

  private static String name(int answer) {
    switch (answer) {
      case MobileCall.BAD: return "BAD ";
      case MobileCall.NOT_SO: return "NOT_SO ";
      case MobileCall.NONE: return "NONE ";
      default: return "";
    }
  }

  private static void constructor() {
    Constructor<?>[] all = MobileCall.class.getDeclaredConstructors();
    Script.due("constructors", all.length, 1);
    Script.due("the constructor", types(all[0].getParameterTypes()), "(int,int,int)");
    Script.due("the constructor is public", all[0].getModifiers(), Modifier.PUBLIC);
    Script.due("what it throws", all[0].getExceptionTypes().length, 0);
  }

  private static void methods() {
    Set<String> seen = new TreeSet<>();
    Set<String> privateNames = new TreeSet<>();
    for (Method m : MobileCall.class.getDeclaredMethods()) {
      if (Modifier.isPrivate(m.getModifiers())) {
        privateNames.add(m.getName());
        continue;
      }
      seen.add(m.getName() + types(m.getParameterTypes()) + " " + m.getReturnType());
      Script.due(m.getName() + " is public alone", m.getModifiers(), Modifier.PUBLIC);
      Script.due(m.getName() + " throws", m.getExceptionTypes().length, 0);
    }
    Script.due("the methods", seen, METHODS);
    for (Method m : MobileCall.class.getMethods()) {
      Script.due("a private method " + m.getName(), privateNames.contains(m.getName()), false);
    }
  }

  private static String types(Class<?>[] types) {
    return Arrays.stream(types).map(Class::getName).collect(Collectors.joining(",", "(", ")"));
  }
}
