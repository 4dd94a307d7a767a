import java.lang.reflect.Executable;
import java.lang.reflect.Field;
import java.lang.reflect.Modifier;
import java.nio.file.Files;
import java.nio.file.Path;
import java.util.Arrays;
import java.util.List;
import java.util.regex.Matcher;
import java.util.regex.Pattern;
import java.util.stream.Collectors;
import java.util.stream.Stream;

/** Those rules of LANGUAGE.md that a program can see without doubt; the others are left to readers. */
public final class LanguageTest {
    private static final Pattern FORBIDDEN = Pattern.compile(
        "\\b(throw|throws|try|catch|finally|synchronized|assert|package|native|volatile|Thread|Random)\\b"
            + "|\\bimport (?!java\\.util\\.(ArrayList|List|Arrays|Iterator);)"
            + "|\\bSystem\\.(?!arraycopy)|Exact\\(|\\bhashCode\\(|->|::");
    private static final Pattern ARROW_OF_A_SWITCH = Pattern.compile("\\b(case [^>;]*|default )->");
    private static final int MOST_PARAMETERS = 7;

    private static boolean failed = false;

    public static void main(String[] args) throws Exception {
        noForbiddenWords(Files.readString(Path.of("src/main/java/HouseWorkers.java")));
        classesInsideAreStaticAndNotPublic();
        classes().forEach(LanguageTest::staticFieldsAreFinal);
        classes().forEach(LanguageTest::fewParameters);
        System.out.println(failed ? "the language is not as due" : "the language is as due");
        if (failed) {
            System.exit(1);
        }
    }

    private static void fail(String why) {
        failed = true;
        System.out.println(why);
    }

    private static List<Class<?>> classes() {
        return Stream.concat(Stream.of(HouseWorkers.class), Arrays.stream(HouseWorkers.class.getDeclaredClasses()))
            .collect(Collectors.toList());
    }

    private static void noForbiddenWords(String source) {
        String code = source.replaceAll("(?s)/\\*.*?\\*/", "").replaceAll("//[^\n]*", "");
        Matcher found = FORBIDDEN.matcher(ARROW_OF_A_SWITCH.matcher(code).replaceAll(""));
        while (found.find()) {
            fail("the source has " + found.group());
        }
    }

    private static void classesInsideAreStaticAndNotPublic() {
        for (Class<?> inside : HouseWorkers.class.getDeclaredClasses()) {
            int modifiers = inside.getModifiers();
            if (!Modifier.isStatic(modifiers) || Modifier.isPublic(modifiers) || Modifier.isProtected(modifiers)) {
                fail("it is not static, or wider than the package: " + inside);
            }
        }
    }

    private static void staticFieldsAreFinal(Class<?> one) {
        for (Field field : one.getDeclaredFields()) {
            if (Modifier.isStatic(field.getModifiers()) && !Modifier.isFinal(field.getModifiers())) {
                fail("it is static and not final: " + field);
            }
        }
    }

    private static void fewParameters(Class<?> one) {
        Stream<Executable> all =
            Stream.of(one.getDeclaredMethods(), one.getDeclaredConstructors()).flatMap(Arrays::stream);
        all.filter(m -> m.getParameterCount() > MOST_PARAMETERS).forEach(m -> fail("it has many parameters: " + m));
    }
}
