import java.io.IOException;
import java.nio.file.Files;
import java.nio.file.Path;
import java.util.regex.Matcher;
import java.util.regex.Pattern;

/** Rules of LANGUAGE.md that can be seen from the text of the program. */
public final class SourceTest {
    private static final String[] FORBIDDEN = {
        "throw", "throws", "try", "catch", "finally", "synchronized", "assert", "import", "package", "volatile",
        "transient", "native", "protected", "var", "record", "System\\.(?!arraycopy)\\w+", "Thread", "Random",
        "\\w+Exact", "Object", "hashCode", "toString", "equals",
    };

    private SourceTest() {
    }

    public static void main(String[] args) throws IOException {
        String text = Files.readString(Path.of("src/main/java/AirClock.java"));
        for (int i = 0; i < text.length(); i++) {
            if (text.charAt(i) > 126 || text.charAt(i) == '\t') {
                Due.holds("only plain signs, not " + (int) text.charAt(i) + " at " + i, false);
            }
        }
        String code = text.replaceAll("(?s)/\\*.*?\\*/", "").replaceAll("//[^\n]*", "");
        for (String word : FORBIDDEN) {
            Due.holds("no " + word, !Pattern.compile("(?<![\\w.])" + word + "\\b").matcher(code).find());
        }
        Due.holds("no lambda", !code.contains("->"));
        Due.holds("no method reference", !code.contains("::"));
        nothingIsMadeByCalls(code);
        staticFieldsAreFinal(code);
        methodsAreShort(text);
        Due.end();
    }

    /** Only fields and the constructor make objects, so 512 calls make none. */
    private static void nothingIsMadeByCalls(String code) {
        for (String line : code.split("\n")) {
            if (line.contains("new ")) {
                boolean field = line.matches("\\s+(private )?final int\\[\\] \\w+ = new int\\[[^\\]]*\\];");
                boolean part = line.matches("        \\w+ = new (\\w+\\([\\w, ]*\\)|int\\[\\w+\\]);");
                Due.holds("made in a field or in the constructor: " + line, field || part);
            }
        }
    }

    private static void staticFieldsAreFinal(String code) {
        Matcher field = Pattern.compile("\\n[^\\n(]*\\bstatic\\b[^\\n(]*=").matcher(code);
        while (field.find()) {
            Due.holds("final: " + field.group(), field.group().contains(" final "));
        }
    }

    private static void methodsAreShort(String text) {
        String[] lines = text.split("\n");
        int opened = -1;
        String indent = "";
        for (int i = 0; i < lines.length; i++) {
            if (opened < 0 && lines[i].matches("\\s+[\\w\\[\\] ]+\\([\\w, \\[\\]]*\\) \\{")) {
                opened = i;
                indent = lines[i].substring(0, lines[i].indexOf(lines[i].trim()));
                Due.holds("seven parameters at most: " + lines[i], lines[i].split(",").length <= 7);
            } else if (opened >= 0 && lines[i].equals(indent + "}")) {
                Due.holds("sixty lines at most: " + lines[opened], i - opened < 60);
                opened = -1;
            }
        }
    }
}
