import java.io.IOException;
import java.lang.reflect.Member;
import java.lang.reflect.Method;
import java.lang.reflect.Modifier;
import java.nio.file.Files;
import java.nio.file.Path;
import java.util.ArrayList;
import java.util.Arrays;
import java.util.Collections;
import java.util.List;
import java.util.TreeSet;

/** The public face of the document, and the rules of LANGUAGE.md that can be seen from outside. */
public final class FaceTest {
    private static final String[] FACE = {
        "int putEighths(int,int) Index Argument", "int putExp(int,int) Index Argument",
        "int putExpm1(int,int) Index Argument", "int putLog1p(int,int) Index Argument",
        "int exp(int,int) Index", "int expm1(int,int) Index", "int log1p(int,int) Index",
        "int negate(int,int) Index", "int add(int,int,int) Index", "int times(int,int,int) Index",
        "int lessOne(int,int) Index", "int plusOne(int,int) Index", "int copy(int,int) Index",
        "int swap(int,int) Index", "int choose(int,int,boolean,int) Index", "int sort()", "int kind(int) Index",
        "int eighths(int,int) Index Argument", "boolean isExact(int) Index", "int upper(int) Index",
        "int lower(int) Index", "int sign(int) Index", "int lead(int) Index", "int head(int,int) Index Argument",
        "int tail(int) Index", "String digits(int,int) Index Argument", "int floorOf(int,int) Index Argument",
        "int nearest(int) Index", "int back(int) Index", "int against(int,int,int) Index Argument",
        "int order(int,int) Index", "boolean isLevel(int,int) Index", "int same(int,int) Index",
        "int productWithin(int,int,int) Index", "int inverseWithin(int,int) Index", "int lessWithin(int,int) Index",
        "int wayWithin(int,int) Index Argument", "int growth(int,int,boolean) Index Argument",
        "int growthAgainst(int,int,boolean,int) Index Argument", "int growthOrder(int,int,int,boolean) Argument",
        "int growthNear(int,int) Index Argument", "int first(int,int) Index Argument", "int rank(int) Index",
        "int find(int,boolean) Index", "int end(boolean)", "int count(int) Argument", "int house(int) Argument",
        "int knock()", "boolean isSound()", "long digest()"};

    public static void main(String[] args) throws IOException {
        theFaceIsThatOfTheDocument();
        theSignaturesAreAsPrinted();
        nothingElseIsSeen();
        theFileKeepsToTheLanguage();
        Due.finish();
    }

    private static void theFaceIsThatOfTheDocument() {
        List<String> found = new ArrayList<>();
        for (Method method : Steadygrowth.class.getDeclaredMethods()) {
            if (Modifier.isPublic(method.getModifiers())) {
                found.add(told(method));
                Due.isTrue(method + " belongs to an object", !Modifier.isStatic(method.getModifiers()));
            }
        }
        List<String> due = new ArrayList<>(Arrays.asList(FACE));
        Collections.sort(found);
        Collections.sort(due);
        Due.is("the face", found, due);
        Due.isTrue("the class is public and final",
                Steadygrowth.class.getModifiers() == (Modifier.PUBLIC | Modifier.FINAL));
        Due.is("constructors", Steadygrowth.class.getDeclaredConstructors().length, 1);
        Due.is("its parameters", Steadygrowth.class.getConstructors()[0].getParameterCount(), 0);
    }

    private static String told(Method method) {
        StringBuilder text = new StringBuilder();
        text.append(method.getReturnType().getSimpleName()).append(' ').append(method.getName()).append('(');
        for (Class<?> type : method.getParameterTypes()) {
            text.append(text.charAt(text.length() - 1) == '(' ? "" : ",").append(type.getSimpleName());
        }
        text.append(')');
        for (Class<?> type : method.getExceptionTypes()) {
            text.append(type == IndexOutOfBoundsException.class ? " Index"
                    : type == IllegalArgumentException.class ? " Argument" : " " + type);
        }
        return text.toString();
    }

    /** To the letter, names of arguments and the order of exceptions too; a line may be broken elsewhere. */
    private static void theSignaturesAreAsPrinted() throws IOException {
        String document = Files.readString(Path.of("../shared/DOC.md"));
        int begin = document.indexOf("public final class Steadygrowth {");
        Due.isTrue("the document has a face", begin >= 0);
        String file = Files.readString(Path.of("src/main/java/Steadygrowth.java")).replaceAll("\\s+", " ");
        int signatures = 0;
        for (String line : document.substring(begin, document.indexOf("\n}", begin)).split("\n")) {
            if (line.endsWith(";")) {
                String signature = line.substring(0, line.length() - 1).trim();
                Due.isTrue("as printed: " + signature, file.contains(" " + signature + " { "));
                signatures++;
            }
        }
        Due.is("signatures printed", signatures, FACE.length + 1);
    }

    private static void nothingElseIsSeen() {
        List<Member> members = new ArrayList<>(Arrays.asList(Steadygrowth.class.getDeclaredFields()));
        TreeSet<String> names = new TreeSet<>();
        for (Method method : Steadygrowth.class.getDeclaredMethods()) {
            if (Modifier.isPublic(method.getModifiers())) {
                names.add(method.getName());
            } else {
                members.add(method);
            }
        }
        for (Member member : members) {
            Due.isTrue(member + " is private", Modifier.isPrivate(member.getModifiers()));
            boolean isField = member instanceof java.lang.reflect.Field;
            Due.isTrue(member + " has a name of its own", isField || !names.contains(member.getName()));
        }
        for (Class<?> inside : Steadygrowth.class.getDeclaredClasses()) {
            Due.isTrue(inside + " is static", Modifier.isStatic(inside.getModifiers()));
            Due.isTrue(inside + " is not public", !Modifier.isPublic(inside.getModifiers()));
            for (Method method : inside.getDeclaredMethods()) {
                Due.isTrue(method + " has a name of its own", !names.contains(method.getName()));
            }
        }
    }

    private static void theFileKeepsToTheLanguage() throws IOException {
        String text = Files.readString(Path.of("src/main/java/Steadygrowth.java"));
        for (String none : new String[] {"package ", "->", "::", "catch", "finally", "synchronized", "assert ",
            "StrictMath", "double", "float", "equals(", "hashCode", "protected", "static {", "while"}) {
            Due.isTrue("no " + none, !text.contains(none));
        }
        for (String line : text.split("\n")) {
            Due.isTrue("import of the list: " + line, !line.startsWith("import ")
                    || line.equals("import java.util.Arrays;"));
        }
        Due.isTrue("signs are 1 to 127", text.chars().allMatch(sign -> sign >= 1 && sign <= 127));
    }
}
