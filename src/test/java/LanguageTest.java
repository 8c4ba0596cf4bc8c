import java.lang.reflect.Constructor;
import java.lang.reflect.Field;
import java.lang.reflect.Method;
import java.lang.reflect.Modifier;
import java.nio.file.Files;
import java.nio.file.Path;
import java.util.ArrayList;
import java.util.List;
import java.util.TreeSet;
import java.util.regex.Matcher;
import java.util.regex.Pattern;

/** Rules of LANGUAGE.md that the source and the class itself show. Run in the project's directory. */
public final class LanguageTest {
    private static final Check CHECK = new Check();

    private static final String[] FACE = {
        "int after(int,int)", "int again(int)", "int along(int,int)", "int autumn(int,int)", "int count(int)",
        "int cross(int,int)", "int fault()", "int fits()", "int forSure(int)", "int gust()",
        "int height(int,boolean)", "int keep(int)", "int kite(int,int)", "int launch(int,int,int,int)",
        "int rise(int,int)", "int run(int,int)", "int see(int,int,boolean)", "int takeIn(int)", "int tangle()",
        "int toLaunch(int,int,int)", "int toTakeIn()", "int tonight(int)", "int tonightAt(int,int)", "int undo()",
        "int unsee()", "int war()", "int where(int,int,boolean,boolean)", "int wind(int,int)", "int wipe()",
        "int write(int,long)", "long seed(long)"};

    /** Calls of the library that rule 4 lists and the class uses; another one must be looked up there. */
    private static final TreeSet<String> LIBRARY = new TreeSet<>(List.of(
            "Math.abs", "Math.min", "Math.max", "Integer.signum", "Integer.bitCount", "System.arraycopy"));

    public static void main(String[] args) throws Exception {
        String code = withoutComments(Files.readString(Path.of("src/main/java/KitesWar.java")));
        face();
        nested();
        words(code);
        library(code);
        lengths(code);
        CHECK.end();
    }

    private static String withoutComments(String source) {
        return source.replaceAll("(?s)/\\*.*?\\*/", "").replaceAll("//[^\n]*", "");
    }

    private static void face() {
        TreeSet<String> open = new TreeSet<>();
        TreeSet<String> openNames = new TreeSet<>();
        for (Method m : KitesWar.class.getDeclaredMethods()) {
            if (Modifier.isPublic(m.getModifiers())) {
                open.add(m.toString().replaceAll("public |KitesWar\\.", ""));
                openNames.add(m.getName());
            }
        }
        CHECK.isTrue("the face is that of the document: " + open, open.equals(new TreeSet<>(List.of(FACE))));
        for (Method m : KitesWar.class.getDeclaredMethods()) {
            boolean isPrivate = Modifier.isPrivate(m.getModifiers());
            CHECK.isTrue(m + " is public or private", Modifier.isPublic(m.getModifiers()) || isPrivate);
            CHECK.isTrue(m + " bears no public name", !isPrivate || !openNames.contains(m.getName()));
        }
        TreeSet<String> constants = new TreeSet<>();
        for (Field f : KitesWar.class.getDeclaredFields()) {
            if (!Modifier.isPrivate(f.getModifiers())) {
                constants.add(f.toString());
            }
        }
        CHECK.due("constants of the face", constants.size(), 5);
        CHECK.isTrue("the class is final", Modifier.isFinal(KitesWar.class.getModifiers()));
        Constructor<?>[] makers = KitesWar.class.getDeclaredConstructors();
        CHECK.isTrue("one constructor without parameters",
                makers.length == 1 && makers[0].getParameterCount() == 0 && Modifier.isPublic(makers[0].getModifiers()));
    }

    private static void nested() {
        List<Class<?>> all = new ArrayList<>(List.of(KitesWar.class.getDeclaredClasses()));
        CHECK.isTrue("at most twelve classes", all.size() < 12);
        all.add(KitesWar.class);
        for (Class<?> c : all) {
            CHECK.isTrue(c + " is static", c == KitesWar.class || Modifier.isStatic(c.getModifiers()));
            int fields = 0;
            for (Field f : c.getDeclaredFields()) {
                if (Modifier.isStatic(f.getModifiers())) {
                    CHECK.isTrue(f + " is final", Modifier.isFinal(f.getModifiers()));
                } else {
                    fields++;
                }
            }
            CHECK.isTrue(c + " has at most twenty fields", fields <= 20);
            for (Method m : c.getDeclaredMethods()) {
                CHECK.isTrue(m + " has at most seven parameters", m.getParameterCount() <= 7);
            }
        }
    }

    private static void words(String code) {
        String[] forbidden = {"\\bthrow\\b", "\\btry\\b", "\\bcatch\\b", "\\bsynchronized\\b", "\\bassert\\b",
            "->", "::", "\\bimport\\b", "\\bpackage\\b", "\\bthrows\\b", "Exact\\b", "\\bvar\\b", "MAX_VALUE", "MIN_VALUE"};
        for (String word : forbidden) {
            CHECK.isTrue("the source is without " + word, !Pattern.compile(word).matcher(code).find());
        }
        CHECK.isTrue("no while: each loop counts", !Pattern.compile("\\bwhile\\b").matcher(code).find());
        CHECK.isTrue("signs are 1 to 127", code.chars().allMatch(c -> c > 0 && c < 128));
    }

    private static void library(String code) {
        Matcher calls = Pattern.compile("\\b(Math|Integer|Long|System|Arrays|String|Character)\\.(\\w+)").matcher(code);
        while (calls.find()) {
            CHECK.isTrue(calls.group() + " is in the list", LIBRARY.contains(calls.group()));
        }
    }

    /** Methods stay short: from a line that opens a method to the brace that ends it. */
    private static void lengths(String code) {
        String[] lines = code.split("\n");
        for (int i = 0; i < lines.length; i++) {
            Matcher opens = Pattern.compile("^( {4}| {8})(?! |if |for |switch )[\\w\\[\\] ]+\\([^;]*\\) \\{$").matcher(lines[i]);
            if (opens.find()) {
                int end = i;
                while (!lines[end].equals(opens.group(1) + "}")) {
                    end++;
                }
                CHECK.isTrue(lines[i].trim() + " is short", end - i <= 60);
            }
        }
    }
}
