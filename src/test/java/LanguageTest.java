import java.lang.reflect.Constructor;
import java.lang.reflect.Field;
import java.lang.reflect.Member;
import java.lang.reflect.Method;
import java.lang.reflect.Modifier;
import java.nio.file.Files;
import java.nio.file.Path;
import java.util.Arrays;
import java.util.Set;
import java.util.TreeSet;
import java.util.regex.Matcher;
import java.util.regex.Pattern;

/** What can be looked up of LANGUAGE.md's rules: the face by reflection, words by the source. */
public final class LanguageTest {
  private static final String FACE = """
    int feed(long,int) int lesson() int learner(int,int) int learnerOf(int,int) int pair(int,int)
    int pairOf(int,int) long tied(int) int head(int,int,int) int firm(int,int,int) int rights(int,int,int)
    int set(int,int) int day() int feel(int,int,int) int would(int,int,int,int) int ask(int,int,int)
    int tell(int,int) int nights(int) int card(int) long known(int,int) long friday(int,int,int)
    int odds(int,int) int best(int,int,int,int) int till(int,int,int) int hardest(int) int draws(int,int,int)
    int give(int) int item(int,int) int seed(int) int draw(int,int) int prove(int) int row(int,int)
    int alterRow(int,int,int) int judge(int) int firms(int,int,int,int,int) int sheet(int,int,int)
    int put(int,int,int) int number(int,int,int) int shelf(int,int,int) int taken(int,int) int act(int,int,int)
    int trace(int) int many(int) int keep() int again()""";
  private static final String FORBIDDEN =
    "\\b(throw|throws|try|catch|synchronized|assert|volatile|native|import|package|protected|var|System\\.(?!arraycopy))\\b|->|::|\\bstatic\\s*\\{";
  private static final Pattern LIBRARY = Pattern.compile("\\b(Math|Integer|Long|Short|Byte|Character|Boolean|System|Arrays|Runtime|Thread)\\.\\w+");
  // What the class uses of rule 4; another function of that rule may be added here with its use.
  private static final Set<String> LIBRARY_USED = Set.of("Math.min", "Math.max", "Long.bitCount", "System.arraycopy");
  private static int wrong = 0;

  private static void must(boolean holds, String what) {
    if (holds) return;
    wrong++;
    System.out.println(what);
  }

  public static void main(String[] args) throws Exception {
    theFace();
    int classes = 0;
    for (Class<?> inside : SevenEights.class.getDeclaredClasses()) {
      classes++;
      must(Modifier.isStatic(inside.getModifiers()), inside + " is not static");
      must(!Modifier.isPublic(inside.getModifiers()), inside + " is public");
      membersOf(inside);
    }
    membersOf(SevenEights.class);
    must(classes <= 12, "there are " + classes + " classes inside");
    theSource(Files.readString(Path.of("src/main/java/SevenEights.java")));
    System.out.println(wrong == 0 ? "the rules that can be looked up are kept" : wrong + " rules are not kept");
    if (wrong != 0) System.exit(1);
  }

  private static void theFace() {
    Set<String> face = new TreeSet<>(Arrays.asList(FACE.trim().replaceAll("\\s+(?=(int|long) )", "\n").split("\n")));
    Set<String> found = new TreeSet<>();
    for (Method method : SevenEights.class.getDeclaredMethods()) {
      if (!Modifier.isPublic(method.getModifiers())) continue;
      String parameters = String.join(",", Arrays.stream(method.getParameterTypes()).map(Class::getName).toList());
      found.add(method.getReturnType().getName() + " " + method.getName() + "(" + parameters + ")");
    }
    must(face.size() == 44, "the face has " + face.size() + " methods here");
    must(found.equals(face), "the face is " + found);
    must(Modifier.isFinal(SevenEights.class.getModifiers()), "the class is not final");
    Constructor<?>[] made = SevenEights.class.getDeclaredConstructors();
    must(made.length == 1 && made[0].getParameterCount() == 0 && Modifier.isPublic(made[0].getModifiers()), "the constructor is another");
    must(SevenEights.BAD == -1 && SevenEights.FULL == -2 && SevenEights.NONE == -3 && SevenEights.STATE == -4, "a constant is another");
  }

  private static void membersOf(Class<?> owner) {
    boolean isFace = owner == SevenEights.class;
    int fields = 0;
    for (Field field : owner.getDeclaredFields()) {
      boolean isConstant = Modifier.isStatic(field.getModifiers());
      if (!isConstant) fields++;
      must(!isConstant || Modifier.isFinal(field.getModifiers()), field + " is static, but not final");
      if (isFace && !Set.of("BAD", "FULL", "NONE", "STATE").contains(field.getName())) isPrivate(field);
    }
    must(fields <= 20, owner + " has " + fields + " fields");
    for (Method method : owner.getDeclaredMethods()) {
      must(method.getParameterCount() <= 7, method + " takes too many");
      if (isFace && Modifier.isPublic(method.getModifiers())) continue;
      if (isFace) isPrivate(method);
      must(!FACE.contains(" " + method.getName() + "("), method + " bears the name of a public one");
    }
  }

  private static void isPrivate(Member member) {
    must(Modifier.isPrivate(member.getModifiers()), member + " is not private");
  }

  private static void theSource(String source) {
    String code = source.replaceAll("(?s)/\\*.*?\\*/", "").replaceAll("//[^\n]*", "").replaceAll("\"[^\"]*\"", "\"\"");
    Matcher words = Pattern.compile(FORBIDDEN).matcher(code);
    while (words.find()) must(false, "the source has '" + words.group() + "'");
    Matcher library = LIBRARY.matcher(code);
    while (library.find()) must(LIBRARY_USED.contains(library.group()), "the source has '" + library.group() + "'");
    int length = 0;
    for (String line : code.split("\n")) {
      length = line.matches(" {2,4}[a-z].*\\) \\{") ? 0 : length + 1;
      must(length <= 60 || !line.matches(" {2,4}\\}"), "a method has " + length + " lines");
    }
  }
}
