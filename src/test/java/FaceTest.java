import java.lang.reflect.Constructor;
import java.lang.reflect.Field;
import java.lang.reflect.Method;
import java.lang.reflect.Modifier;
import java.nio.file.Files;
import java.nio.file.Path;
import java.util.ArrayList;
import java.util.HashSet;
import java.util.List;
import java.util.Set;
import java.util.TreeSet;
import java.util.regex.Matcher;
import java.util.regex.Pattern;

/** The face is the document's, word for word, and the file keeps to what of LANGUAGE.md can be looked up in it. */
public final class FaceTest {
    private static final String[] FORBIDDEN = {
        "throw", "throws", "try", "catch", "finally", "synchronized", "assert", "volatile", "protected", "var", "->", "::",
        "hashCode", "toString", "Exact", "System.out", "System.nano", "System.current", "Random", "Thread", "package",
        "double", "float", "Object"
    };
    private static int wrong = 0;

    public static void main(String[] args) throws Exception {
        checkFace();
        checkSource();
        System.out.println(wrong == 0 ? "the face is as due" : wrong + " things are not as due");
        if (wrong != 0) {
            System.exit(1);
        }
    }

    private static void complain(String what) {
        wrong++;
        System.out.println(what);
    }

    private static void checkFace() throws Exception {
        Set<String> due = new TreeSet<>();
        String doc = Files.readString(Path.of("../shared/DOC.md"));
        String face = doc.substring(doc.indexOf("```java") + 7, doc.indexOf("```", doc.indexOf("```java") + 7));
        Matcher m = Pattern.compile("public (int|long) (\\w+)\\(([^)]*)\\);").matcher(face);
        while (m.find()) {
            StringBuilder types = new StringBuilder();
            for (String part : m.group(3).split(",")) {
                if (!part.isBlank()) {
                    types.append(types.length() == 0 ? "" : ",").append(part.trim().split(" ")[0]);
                }
            }
            due.add(m.group(1) + " " + m.group(2) + "(" + types + ")");
        }
        if (due.size() != 47) {
            complain("the document has " + due.size() + " methods, not 47");
        }
        Set<String> have = new TreeSet<>();
        Set<String> hidden = new HashSet<>();
        for (Method method : FloorsByLot.class.getDeclaredMethods()) {
            if (Modifier.isPrivate(method.getModifiers()) || method.isSynthetic()) {
                hidden.add(method.getName());
                continue;
            }
            have.add(signature(method));
            if (!Modifier.isPublic(method.getModifiers()) || Modifier.isStatic(method.getModifiers())) {
                complain("neither public nor private: " + method);
            }
        }
        if (!have.equals(due)) {
            complain("the face has " + have + ", due is " + due);
        }
        for (Class<?> inner : FloorsByLot.class.getDeclaredClasses()) {
            if (!Modifier.isStatic(inner.getModifiers()) || Modifier.isPublic(inner.getModifiers())) {
                complain("a class inside that isn't static, or is public: " + inner);
            }
            for (Method method : inner.getDeclaredMethods()) {
                hidden.add(method.getName());
                if (method.getParameterCount() > 7) {
                    complain("too many parameters: " + method);
                }
            }
            checkFields(inner);
        }
        if (FloorsByLot.class.getDeclaredClasses().length > 12) {
            complain("more than twelve classes");
        }
        for (String sig : have) {
            String name = sig.substring(sig.indexOf(' ') + 1, sig.indexOf('('));
            if (hidden.contains(name)) {
                complain("a hidden method bears a public one's name: " + name);
            }
        }
        checkFields(FloorsByLot.class);
        for (Field field : FloorsByLot.class.getDeclaredFields()) {
            boolean isNone = field.getName().equals("NONE");
            if (isNone != Modifier.isPublic(field.getModifiers()) || !isNone && !Modifier.isPrivate(field.getModifiers())) {
                complain("a field that is seen outside, or NONE that isn't: " + field);
            }
        }
        Constructor<?>[] made = FloorsByLot.class.getConstructors();
        if (made.length != 1 || made[0].getParameterCount() != 0 || !Modifier.isFinal(FloorsByLot.class.getModifiers())) {
            complain("the constructor, or the class isn't final");
        }
        if (FloorsByLot.NONE != -1) {
            complain("NONE is " + FloorsByLot.NONE);
        }
    }

    private static void checkFields(Class<?> in) {
        int own = 0;
        for (Field field : in.getDeclaredFields()) {
            if (Modifier.isStatic(field.getModifiers())) {
                if (!Modifier.isFinal(field.getModifiers())) {
                    complain("a static field that isn't final: " + field);
                }
            } else {
                own++;
            }
        }
        if (own > 20) {
            complain(in + " has " + own + " fields");
        }
    }

    private static String signature(Method method) {
        StringBuilder types = new StringBuilder();
        for (Class<?> type : method.getParameterTypes()) {
            types.append(types.length() == 0 ? "" : ",").append(type.getName());
        }
        return method.getReturnType().getName() + " " + method.getName() + "(" + types + ")";
    }

    private static void checkSource() throws Exception {
        String source = Files.readString(Path.of("src/main/java/FloorsByLot.java"));
        String bare = source.replaceAll("(?s)/\\*.*?\\*/", "").replaceAll("//[^\n]*", "").replaceAll("\"[^\"\n]*\"", "\"\"");
        for (String word : FORBIDDEN) {
            String pattern = Character.isLetter(word.charAt(0)) ? "\\b" + Pattern.quote(word) + "\\b" : Pattern.quote(word);
            if (Pattern.compile(pattern).matcher(bare).find()) {
                complain("the file has " + word);
            }
        }
        List<String> imports = new ArrayList<>();
        Matcher m = Pattern.compile("import ([\\w.*]+);").matcher(bare);
        while (m.find()) {
            imports.add(m.group(1));
        }
        if (!imports.equals(List.of("java.util.Arrays"))) {
            complain("imports " + imports);
        }
    }
}
