import java.io.IOException;
import java.lang.reflect.Array;
import java.lang.reflect.Constructor;
import java.lang.reflect.Field;
import java.lang.reflect.Method;
import java.lang.reflect.Modifier;
import java.nio.file.Files;
import java.nio.file.Path;
import java.util.IdentityHashMap;
import java.util.Map;
import java.util.Set;
import java.util.TreeSet;
import java.util.regex.Matcher;
import java.util.regex.Pattern;

/** The face of the class, and those rules of LANGUAGE.md that can be read off it and its file. */
public final class RulesTest {
    private static final String[] FACE = {"module()", "need(int,int)", "define(int,int,int,int,int)",
        "optional(int,int)", "beginner(int,int)", "put(int,int,int,int,int)", "load(int,int)",
        "fault(int)", "order(int,int)", "comes(int,int)", "bound(int,int)", "run(int,int)",
        "count(int)", "said(int)", "register(int)", "datum(int,int)", "check()"};
    private static final String FORBIDDEN = "\\b(throw|throws|try|catch|synchronized|assert|package|"
        + "hashCode|toString|Exact|Random|Thread|Runtime|nanoTime|currentTimeMillis|Object|Class)\\b|->|::|@";
    private static final Set<String> LIBRARY = Set.of("Arrays.fill", "System.arraycopy", "Math.max");
    private static int wrong = 0;

    public static void main(String[] args) throws IOException, ReflectiveOperationException {
        lookAtFace();
        Class<?>[] insides = LinkStation.class.getDeclaredClasses();
        expect(insides.length < 12, "the file has at most twelve classes");
        for (Class<?> inside : insides) {
            lookAtInside(inside);
        }
        lookAtText();
        lookAtRoom();
        if (wrong != 0) {
            System.exit(1);
        }
        System.out.println("the face and the rules are kept");
    }

    private static void expect(boolean holds, String what) {
        if (!holds) {
            wrong++;
            System.out.println("not so: " + what);
        }
    }

    private static String signatureOf(Method method) {
        StringBuilder text = new StringBuilder(method.getName()).append('(');
        String comma = "";
        for (Class<?> type : method.getParameterTypes()) {
            text.append(comma).append(type.getName());
            comma = ",";
        }
        return text.append(')').toString();
    }

    private static void lookAtFace() {
        Class<LinkStation> face = LinkStation.class;
        expect(Modifier.isFinal(face.getModifiers()), "the class is final");
        Set<String> found = new TreeSet<>();
        Set<String> names = new TreeSet<>();
        for (Method method : face.getDeclaredMethods()) {
            if (Modifier.isPublic(method.getModifiers())) {
                expect(method.getReturnType() == int.class, method + " answers an int");
                found.add(signatureOf(method));
                names.add(method.getName());
            }
        }
        expect(found.equals(new TreeSet<>(Set.of(FACE))), "the public methods are those of the document: " + found);
        for (Method method : face.getDeclaredMethods()) {
            int bits = method.getModifiers();
            expect(Modifier.isPublic(bits) || Modifier.isPrivate(bits), method + " is public or private");
            expect(Modifier.isPublic(bits) || !names.contains(method.getName()), method + " has a name of its own");
        }
        for (Constructor<?> made : face.getDeclaredConstructors()) {
            expect(Modifier.isPublic(made.getModifiers()) && made.getParameterCount() == 0, made + " is the document's");
        }
        for (Field field : face.getDeclaredFields()) {
            int bits = field.getModifiers();
            boolean isNone = field.getName().equals("NONE") && Modifier.isPublic(bits);
            expect(isNone || Modifier.isPrivate(bits), field + " is private");
            expect(!Modifier.isStatic(bits) || Modifier.isFinal(bits), field + " is final, if static");
        }
    }

    private static void lookAtInside(Class<?> inside) {
        expect(Modifier.isStatic(inside.getModifiers()), inside + " is static");
        int fields = 0;
        for (Field field : inside.getDeclaredFields()) {
            expect(!Modifier.isStatic(field.getModifiers()) || Modifier.isFinal(field.getModifiers()), field + " is final");
            fields += Modifier.isStatic(field.getModifiers()) ? 0 : 1;
        }
        expect(fields <= 20, inside + " has at most 20 fields");
        for (Method method : inside.getDeclaredMethods()) {
            expect(method.getParameterCount() <= 7, method + " has at most seven parameters");
            for (String call : FACE) {
                expect(!call.startsWith(method.getName() + "("), method + " has a name of its own");
            }
        }
    }

    private static void lookAtText() throws IOException {
        String text = Files.readString(Path.of("src/main/java/LinkStation.java"));
        String code = text.replaceAll("(?s)/\\*.*?\\*/", "").replaceAll("//[^\n]*", "");
        Matcher found = Pattern.compile(FORBIDDEN).matcher(code);
        while (found.find()) {
            expect(false, "the file is without '" + found.group() + "'");
        }
        Matcher imports = Pattern.compile("(?m)^import (.*);").matcher(code);
        while (imports.find()) {
            expect(imports.group(1).equals("java.util.Arrays"), "no import of " + imports.group(1));
        }
        lookAtLibrary(code);
        lookAtLengths(code);
    }

    private static void lookAtLibrary(String code) {
        Matcher used = Pattern.compile("\\b([A-Z][a-z]+)\\.(\\w+)").matcher(code);
        while (used.find()) {
            expect(LIBRARY.contains(used.group()), "the library's " + used.group() + " is not used");
        }
        expect(!Pattern.compile("\\bstatic\\s*\\{").matcher(code).find(), "there is no static initialiser block");
        expect(!Pattern.compile("\\bwhile\\s*\\(\\s*true|for\\s*\\(\\s*;").matcher(code).find(), "every loop has an end");
        expect(code.chars().allMatch(c -> c == '\n' || (c >= ' ' && c <= '~')), "the file's characters are plain ones");
    }

    /** A full station, with all that hangs on it, is a small part of the room that all calls share. */
    private static void lookAtRoom() throws ReflectiveOperationException {
        LinkStation x = new LinkStation();
        while (x.module() != LinkStation.NONE) {
            x.beginner(0, LinkStation.NONE);
        }
        Map<Object, Boolean> seen = new IdentityHashMap<>();
        expect(roomOf(x, seen) < 20_000, "a full station has less than 20,000 fields and elements");
        expect(seen.size() < 400, "a full station has less than 400 objects: " + seen.size());
    }

    private static int roomOf(Object part, Map<Object, Boolean> seen) throws ReflectiveOperationException {
        if (part == null || seen.put(part, true) != null) {
            return 0;
        }
        if (part.getClass().isArray()) {
            int room = Array.getLength(part);
            for (int k = 0; part instanceof Object[] && k < Array.getLength(part); k++) {
                room += roomOf(Array.get(part, k), seen);
            }
            return room;
        }
        int room = 0;
        for (Field field : part.getClass().getDeclaredFields()) {
            if (!Modifier.isStatic(field.getModifiers())) {
                field.setAccessible(true);
                room += 1 + (field.getType().isPrimitive() ? 0 : roomOf(field.get(part), seen));
            }
        }
        return room;
    }

    /** A method begins with a line that ends in ") {" outside of other methods, and ends with its own depth. */
    private static void lookAtLengths(String code) {
        String[] lines = code.split("\n");
        int begin = -1;
        String end = "";
        for (int k = 0; k < lines.length; k++) {
            boolean isHead = lines[k].matches("( {4}| {8})(?!if|for|while|switch|do\\b|\\}).*\\(.*\\) \\{");
            if (begin < 0 && isHead) {
                begin = k;
                end = lines[k].replaceAll("\\S.*", "") + "}";
            } else if (begin >= 0 && lines[k].equals(end)) {
                expect(k - begin < 60, "a method of at most 60 lines: " + lines[begin].trim());
                begin = -1;
            }
        }
        expect(begin < 0, "each method's end is found");
    }
}
