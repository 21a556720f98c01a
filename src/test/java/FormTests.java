import java.lang.reflect.Constructor;
import java.lang.reflect.Field;
import java.lang.reflect.Method;
import java.lang.reflect.Modifier;
import java.nio.file.Files;
import java.nio.file.Path;
import java.util.ArrayList;
import java.util.HashSet;
import java.util.List;
import java.util.Set;
import java.util.TreeSet;
import java.util.regex.Matcher;
import java.util.regex.Pattern;

/** The public face as the document has it, and the rules of LANGUAGE.md that a text shows. */
public final class FormTests {
    private static final String PROGRAM = "src/main/java/LookupBoard.java";
    private static final String DOCUMENT = "../shared/DOC.md";
    private static int wrong = 0;

    private static void check(boolean right, String what) {
        if (!right) {
            wrong++;
            System.out.println("not so: " + what);
        }
    }

    private static void face() throws Exception {
        Set<String> want = new TreeSet<>();
        Matcher lines = Pattern.compile("(?m)^    public (?:static final int (\\w+) = (-\\d+)|(.*));$")
            .matcher(Files.readString(Path.of(DOCUMENT)));
        while (lines.find()) {
            want.add(lines.group(1) != null ? lines.group(1) + "=" + lines.group(2)
                : lines.group(3).replaceAll(" \\w+(?=[,)])", ""));
        }
        check(want.size() == 29, "the document tells 6 constants, a constructor and 22 methods, not " + want.size());
        Set<String> got = new TreeSet<>();
        for (Field field : LookupBoard.class.getDeclaredFields()) {
            if (!Modifier.isPrivate(field.getModifiers())) {
                check(Modifier.toString(field.getModifiers()).equals("public static final"), field.toString());
                got.add(field.getName() + "=" + field.get(null));
            }
        }
        for (Method method : LookupBoard.class.getDeclaredMethods()) {
            if (!Modifier.isPrivate(method.getModifiers())) {
                check(method.getModifiers() == Modifier.PUBLIC, method.toString());
                got.add(method.getReturnType() + " " + method.getName() + types(method.getParameterTypes()));
            }
        }
        for (Constructor<?> constructor : LookupBoard.class.getDeclaredConstructors()) {
            check(constructor.getModifiers() == Modifier.PUBLIC, constructor.toString());
            got.add("LookupBoard" + types(constructor.getParameterTypes()));
        }
        check(got.equals(want), "the face is " + got + ", due is " + want);
        check(LookupBoard.class.getModifiers() == (Modifier.PUBLIC | Modifier.FINAL), "the class is public and final");
    }

    private static String types(Class<?>[] types) {
        List<String> names = new ArrayList<>();
        for (Class<?> type : types) {
            names.add(type.getName());
        }
        return "(" + String.join(", ", names) + ")";
    }

    private static void names() {
        Set<String> face = new HashSet<>();
        for (Method method : LookupBoard.class.getDeclaredMethods()) {
            if (Modifier.isPublic(method.getModifiers())) {
                face.add(method.getName());
            }
        }
        List<Class<?>> classes = new ArrayList<>(List.of(LookupBoard.class.getDeclaredClasses()));
        check(classes.size() <= 12, "some twelve classes");
        classes.add(LookupBoard.class);
        for (Class<?> one : classes) {
            int fields = 0;
            for (Field field : one.getDeclaredFields()) {
                boolean constant = Modifier.isStatic(field.getModifiers());
                check(!constant || Modifier.isFinal(field.getModifiers()), "static fields are final: " + field);
                fields += constant ? 0 : 1;
            }
            check(fields <= 20, "some twenty fields in " + one);
            check(one == LookupBoard.class || Modifier.isStatic(one.getModifiers()), "a static class: " + one);
            for (Method method : one.getDeclaredMethods()) {
                boolean ofTheFace = one == LookupBoard.class && Modifier.isPublic(method.getModifiers());
                check(ofTheFace || !face.contains(method.getName()), "a name of the face: " + method);
                check(method.getParameterCount() <= 7, "seven parameters: " + method);
            }
        }
    }

    private static void text() throws Exception {
        String text = Files.readString(Path.of(PROGRAM));
        check(text.chars().allMatch(sign -> sign < 127), "plain signs");
        String code = text.replaceAll("/\\*(?s:.*?)\\*/", "").replaceAll("//.*", "");
        String[] words = {"throw", "throws", "try", "catch", "synchronized", "assert", "package",
            "lambda", "Object", "Exception", "Error", "System\\.out", "System\\.err", "Random", "Thread"};
        for (String word : words) {
            check(!Pattern.compile("\\b" + word + "\\b").matcher(code).find(), "no " + word);
        }
        check(!code.contains("->") && !code.contains("::"), "no lambda and no method reference");
        Matcher imports = Pattern.compile("(?m)^import (.*);").matcher(code);
        while (imports.find()) {
            check(imports.group(1).matches("java\\.util\\.(Arrays|ArrayList|List|Iterator)"),
                "a library that is listed: " + imports.group(1));
        }
        int start = 0;
        String[] lines = text.split("\n");
        for (int line = 0; line < lines.length; line++) {
            start = lines[line].matches(" {4,8}\\S.*\\{") ? line : start;
            boolean ends = lines[line].matches(" {4,8}\\}");
            boolean ofAClass = lines[start].contains(" class ");
            check(!ends || ofAClass || line - start <= 60, "a method of sixty lines, line " + (line + 1));
        }
    }

    public static void main(String[] args) throws Exception {
        face();
        names();
        text();
        System.out.println(wrong == 0 ? "the form is as due" : wrong + " things are not as due");
        if (wrong != 0) {
            System.exit(1);
        }
    }
}
