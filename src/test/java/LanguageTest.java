import java.lang.reflect.Executable;
import java.lang.reflect.Field;
import java.lang.reflect.Method;
import java.lang.reflect.Modifier;
import java.nio.file.Files;
import java.nio.file.Path;
import java.util.Arrays;
import java.util.List;
import java.util.Set;
import java.util.TreeSet;
import java.util.regex.Matcher;
import java.util.regex.Pattern;

/** The face of the class, and those rules of LANGUAGE.md that can be seen from outside or in the text. */
public final class LanguageTest {
    private static final Path SOURCE = Path.of("src/main/java/CreditExchange.java");
    private static final String INDEX = "IndexOutOfBoundsException";
    private static final String ARGUMENT = "IllegalArgumentException";
    private static final String STATE = "IllegalStateException";
    private static final List<String> FACE = List.of(
            "int append(int) " + ARGUMENT + " " + STATE, "int clearText()", "int errorPosition()", "int load() " + STATE,
            "int about(int) " + ARGUMENT, "int tenant(int,int) " + INDEX + " " + ARGUMENT,
            "int message(int,int) " + INDEX + " " + ARGUMENT, "int order(int,int) " + INDEX + " " + ARGUMENT,
            "int bid(int,int,int) " + INDEX + " " + ARGUMENT + " " + STATE,
            "int ask(int,int,int) " + INDEX + " " + ARGUMENT + " " + STATE,
            "int askShort(int,int,int) " + INDEX + " " + ARGUMENT + " " + STATE, "int withdraw(int) " + INDEX,
            "int push(int,int) " + INDEX + " " + ARGUMENT + " " + STATE,
            "int deposit(int,int) " + INDEX + " " + ARGUMENT + " " + STATE, "int tick(int) " + ARGUMENT,
            "int setRate(int,int) " + INDEX + " " + ARGUMENT, "int setWidth(int) " + ARGUMENT, "int undo() " + STATE,
            "int demand(int) " + ARGUMENT, "int supply(int) " + ARGUMENT, "int auction(int) " + ARGUMENT,
            "int volumeIf(int,int,int,int) " + INDEX + " " + ARGUMENT, "int priceFor(int) " + ARGUMENT,
            "int share(int,boolean) " + INDEX, "int ahead(int,int,int) " + INDEX + " " + ARGUMENT,
            "int sentAfter(int,int) " + INDEX + " " + ARGUMENT, "int unused(int) " + ARGUMENT,
            "long fairness(boolean)", "int wealthiest(int) " + INDEX, "int runScript(int,long) " + ARGUMENT,
            "int simulate(long,int) " + ARGUMENT, "int save(int) " + INDEX, "int restore(int) " + INDEX + " " + STATE);

    public static void main(String[] args) throws Exception {
        face();
        classesInside();
        forbiddenWords();
        lengths();
        Check.end();
    }

    private static void face() {
        Class<?> it = CreditExchange.class;
        Check.that("the class is public and final", Modifier.isPublic(it.getModifiers()) && Modifier.isFinal(it.getModifiers()));
        Set<String> names = new TreeSet<>();
        Set<String> found = new TreeSet<>();
        for (Method method : it.getDeclaredMethods()) {
            if (Modifier.isPublic(method.getModifiers()) && !Modifier.isStatic(method.getModifiers())) {
                names.add(method.getName());
                found.add(told(method));
            }
        }
        Check.is("the public methods", found.toString(), new TreeSet<>(FACE).toString());
        for (Method method : it.getDeclaredMethods()) {
            boolean isPrivate = Modifier.isPrivate(method.getModifiers());
            Check.that(method + " is no part of the face", isPrivate || found.contains(told(method)));
            Check.that(method + " bears a public name", !isPrivate || !names.contains(method.getName()));
        }
        for (Field field : it.getDeclaredFields()) {
            boolean isNone = field.getName().equals("NONE");
            Check.that(field + " is no part of the face", isNone == Modifier.isPublic(field.getModifiers())
                    && (isNone || Modifier.isPrivate(field.getModifiers())));
            Check.that(field + " is static and not final", !Modifier.isStatic(field.getModifiers())
                    || Modifier.isFinal(field.getModifiers()));
        }
        Check.is("constructors", it.getDeclaredConstructors().length, 1);
        Check.is("public constructors without arguments", Arrays.stream(it.getConstructors())
                .filter(c -> c.getParameterCount() == 0).count(), 1);
    }

    private static String told(Method method) {
        StringBuilder told = new StringBuilder(method.getReturnType() + " " + method.getName() + "(");
        for (Class<?> type : method.getParameterTypes()) {
            told.append(told.charAt(told.length() - 1) == '(' ? "" : ",").append(type);
        }
        told.append(")");
        for (Class<?> type : method.getExceptionTypes()) {
            told.append(" ").append(type.getSimpleName());
        }
        return told.toString();
    }

    private static void classesInside() {
        Class<?>[] inside = CreditExchange.class.getDeclaredClasses();
        Check.that("at most some twelve classes", inside.length < 12);
        for (Class<?> it : inside) {
            Check.that(it + " is static", Modifier.isStatic(it.getModifiers()));
            long fields = Arrays.stream(it.getDeclaredFields()).filter(f -> !Modifier.isStatic(f.getModifiers())).count();
            Check.that(it + " has at most some twenty fields", fields <= 20);
            for (Executable method : it.getDeclaredMethods()) {
                Check.that(method + " has at most seven parameters", method.getParameterCount() <= 7);
            }
        }
    }

    private static void forbiddenWords() throws Exception {
        String source = Files.readString(SOURCE);
        String code = source.replaceAll("(?s)/\\*.*?\\*/", "").replaceAll("//[^\n]*", "");
        for (String word : List.of("->", "::", "\\btry\\b", "\\bcatch\\b", "\\bfinally\\b", "\\bsynchronized\\b",
                "\\bassert\\b", "\\bimport\\b", "\\bpackage\\b", "Exact\\b", "\\bhashCode\\b", "\\btoString\\b",
                "\\bequals\\b", "\\bvar\\b", "\\byield\\b", "\\bdouble\\b", "\\bfloat\\b", "\\bRandom\\b",
                "\\bSystem\\.(?!arraycopy)", "\\bwhile *\\(true\\)", "\\bprotected\\b", "\" *\\+|\\+ *\"")) {
            Check.that("the program has " + word, !Pattern.compile(word).matcher(code).find());
        }
        Check.that("signs beyond 127", source.chars().allMatch(c -> c < 128));
    }

    private static void lengths() throws Exception {
        List<String> lines = Files.readAllLines(SOURCE);
        Pattern head = Pattern.compile("^( {4}| {8})(public |private |static |final )*(?!return|throw|else)[\\w\\[\\]]+ \\w+\\(.*");
        for (int i = 0; i < lines.size(); i++) {
            Matcher matcher = head.matcher(lines.get(i));
            if (matcher.matches()) {
                int end = i;
                while (!lines.get(end).equals(matcher.group(1) + "}")) {
                    end++;
                }
                Check.that("line " + (i + 1) + " begins a method of more than sixty lines", end - i < 60);
            }
        }
    }
}
