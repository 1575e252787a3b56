import java.io.IOException;
import java.lang.reflect.Constructor;
import java.lang.reflect.Field;
import java.lang.reflect.Method;
import java.lang.reflect.Modifier;
import java.nio.file.Files;
import java.nio.file.Path;
import java.util.ArrayList;
import java.util.List;
import java.util.Set;
import java.util.TreeSet;
import java.util.regex.Matcher;
import java.util.regex.Pattern;

/** The rules of ../shared/LANGUAGE.md that can be seen from the class and from its text. */
public final class LanguageTests {
    private static final Path SOURCE = Path.of("src/main/java/QuotaAlmshouse.java");
    private static final Path DOCUMENT = Path.of("../shared/DOC.md");
    private static final List<String> FAULTS = new ArrayList<>();

    private static void need(boolean holds, String fault) {
        if (!holds) {
            FAULTS.add(fault);
        }
    }

    private static String faceOf(Method method) {
        List<String> exceptions = new ArrayList<>();
        for (Class<?> e : method.getExceptionTypes()) {
            exceptions.add(e.getSimpleName());
        }
        List<String> types = new ArrayList<>();
        for (Class<?> t : method.getParameterTypes()) {
            types.add(t.getSimpleName());
        }
        return method.getReturnType().getSimpleName() + " " + method.getName() + types + exceptions;
    }

    private static Set<String> faceOfDocument() throws IOException {
        String text = Files.readString(DOCUMENT);
        text = text.substring(text.indexOf("```java"), text.indexOf("## Terms"));
        Matcher m = Pattern.compile("public (\\w+ \\w+)\\(([^)]*)\\)(?: throws ([^;]+))?;").matcher(text);
        Set<String> face = new TreeSet<>();
        while (m.find()) {
            List<String> types = new ArrayList<>();
            for (String parameter : m.group(2).isEmpty() ? new String[0] : m.group(2).split(", ")) {
                types.add(parameter.split(" ")[0]);
            }
            face.add(m.group(1) + types + (m.group(3) == null ? "[]" : "[" + m.group(3) + "]"));
        }
        return face;
    }

    private static void checkFace() throws IOException {
        Set<String> face = new TreeSet<>();
        Set<String> publicNames = new TreeSet<>();
        Set<String> privateNames = new TreeSet<>();
        for (Method m : QuotaAlmshouse.class.getDeclaredMethods()) {
            if (Modifier.isPublic(m.getModifiers())) {
                face.add(faceOf(m));
                publicNames.add(m.getName());
            } else {
                need(Modifier.isPrivate(m.getModifiers()), "1: not private: " + m);
                privateNames.add(m.getName());
            }
        }
        Set<String> due = faceOfDocument();
        need(due.size() == 34, "the document's methods are not found");
        need(face.equals(due), "1: the face is " + face + ", due is " + due);
        privateNames.retainAll(publicNames);
        need(privateNames.isEmpty(), "1: private methods with public names: " + privateNames);
        Constructor<?>[] constructors = QuotaAlmshouse.class.getDeclaredConstructors();
        need(constructors.length == 1 && Modifier.isPublic(constructors[0].getModifiers()), "1: constructors");
        need(Modifier.isFinal(QuotaAlmshouse.class.getModifiers()), "1: not final");
    }

    private static void checkMembers(Class<?> type) {
        int fields = 0;
        for (Field f : type.getDeclaredFields()) {
            boolean isStatic = Modifier.isStatic(f.getModifiers());
            need(!isStatic || Modifier.isFinal(f.getModifiers()), "5: static and not final: " + f);
            need(type != QuotaAlmshouse.class || Modifier.isPrivate(f.getModifiers()), "1: not private: " + f);
            fields += isStatic ? 0 : 1;
        }
        need(fields <= 20, "11: fields of " + type);
        for (Method m : type.getDeclaredMethods()) {
            need(m.getParameterCount() <= 7, "11: parameters of " + m);
            need(!List.of("equals", "hashCode", "toString").contains(m.getName()), "6: " + m);
        }
    }

    private static void checkText() throws IOException {
        String text = Files.readString(SOURCE);
        Matcher bad = Pattern.compile("->|::|\\bfinally\\b|\\bsynchronized\\b|\\bassert\\b|\\bcatch\\b|\\bvar\\b"
                + "|\\bpackage\\b|Exact\\(|\\bSystem\\.(?!arraycopy)|@\\w|\\bdouble\\b|_VALUE\\b").matcher(text);
        while (bad.find()) {
            need(false, "the text has " + bad.group());
        }
        Matcher imports = Pattern.compile("(?m)^import (.*);$").matcher(text);
        while (imports.find()) {
            need(Set.of("java.util.ArrayList", "java.util.NoSuchElementException").contains(imports.group(1)),
                    "4: import " + imports.group(1));
        }
        need(text.chars().allMatch(c -> c < 128), "3: a sign above 127");
        checkLengths(text.split("\n"));
    }

    private static void checkLengths(String[] lines) {
        int begin = 0;
        for (int i = 0; i < lines.length; i++) {
            if (lines[i].matches(" {4,8}\\S.*\\) *(throws .*)?\\{|.*throws .*\\{")) {
                begin = i;
            } else if (lines[i].matches(" {4}}| {8}}")) {
                need(i - begin <= 60, "11: a long method ends in line " + (i + 1));
            }
        }
    }

    public static void main(String[] args) throws IOException {
        checkFace();
        checkMembers(QuotaAlmshouse.class);
        Class<?>[] inside = QuotaAlmshouse.class.getDeclaredClasses();
        need(inside.length < 12, "11: classes");
        for (Class<?> type : inside) {
            checkMembers(type);
            need(Modifier.isStatic(type.getModifiers()), "1: not static: " + type);
            need(!Modifier.isPublic(type.getModifiers()) && !Modifier.isProtected(type.getModifiers()), "1: " + type);
        }
        checkText();
        FAULTS.forEach(System.out::println);
        System.out.println(FAULTS.isEmpty() ? "the rules looked at are kept" : FAULTS.size() + " faults");
        if (!FAULTS.isEmpty()) {
            System.exit(1);
        }
    }
}
