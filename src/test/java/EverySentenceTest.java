import java.io.IOException;
import java.nio.file.Files;
import java.nio.file.Path;
import java.util.ArrayList;
import java.util.LinkedHashMap;
import java.util.List;
import java.util.Map;

/**
 * Every sentence of the document that names a boundary has a test of its own: what the tests quote stands in the
 * document, in the section that they name, and what no test quotes is told here.
 */
public final class EverySentenceTest {
    private static final Path DOCUMENT = Path.of("../shared/DOC.md");

    private static final List<Sentences> TESTED = List.of(
        P01NewObjectBoundsTest.sentences(), P01ObjectBoundsTest.calls(), P01ObjectBoundsTest.terms(),
        P02LayBoundsTest.sentences(), P03SetFieldBoundsTest.sentences(), P04MoveStoneBoundsTest.sentences(),
        P05TurnBoundsTest.sentences(), P06SetShareBoundsTest.sentences(), P07SetDayBoundsTest.sentences(),
        P08PlantBoundsTest.sentences(), P09ReapBoundsTest.sentences(), P10PassBoundsTest.sentences(),
        P10PassBoundsTest.terms(), P10DayWeatherBoundsTest.sentences(), P10DayFlowBoundsTest.sentences(),
        P10DayLossBoundsTest.sentences(), P10DayRiceBoundsTest.sentences(), P11FieldBoundsTest.sentences(),
        P12CountBoundsTest.sentences(), P12CountBoundsTest.terms(), P13WeatherBoundsTest.sentences(),
        P14ForeseeBoundsTest.sentences(), P15AdviseBoundsTest.sentences(), P16DepthBoundsTest.sentences(),
        P17DigestBoundsTest.sentences(), TermsExceptionsBoundsTest.sentences());

    /** Headings and numbers of steps are shorter than this; no clause that names a boundary is. */
    private static final int SHORTEST_CLAUSE = 12;

    /** Clauses that name no boundary, each by its beginning. */
    private static final List<String> WITHOUT_BOUNDARY = List.of(
        "Water goes from field to field", "rows of rice grow, drown or dry", "and it is told what the days ahead bring",
        "Field (t, f) is on terrace t in column f", "A field is fallow, or has a crop: an age, in days",
        "It comes to where the outlet leads", "Ahead of the calls `", "`int setField(", "`int moveStone(", "`int turn(",
        "`int setShare(", "`int setDay(", "`int pass(", "`int field(", "`long digest()`");

    /** Lines that name no boundary, each whole, since in other sections some go on with one. */
    private static final List<String> LINES_WITHOUT_BOUNDARY = List.of(
        "- `t`: its terrace", "- `f`: its column", "- `f`: a column", "- `bank`: the bank", "- `seepage`: the seepage",
        "- `stone`: how high it is then", "- `side`: the side", "- `share`: the share", "- `rain`: the rain",
        "- `spring`: the spring", "- `draught`: the draught", "- `days`: how many", "Returns this.");

    public static void main(String[] args) throws IOException {
        Checks c = new Checks();
        Map<String, String> sections = sections(Files.readString(DOCUMENT));
        Map<String, boolean[]> quoted = new LinkedHashMap<>();
        sections.forEach((name, text) -> quoted.put(name, new boolean[text.length()]));
        for (Sentences tested : TESTED) {
            for (String quote : tested.quotes) {
                if (!mark(sections.get(tested.section), quote, quoted.get(tested.section))) {
                    c.tell(tested.section + " does not say \"" + quote + "\"");
                }
            }
        }
        for (String name : sections.keySet()) {
            if (name.equals("Terms") || name.startsWith("Promise ")) {
                dueQuoted(c, name, sections.get(name), quoted.get(name));
            }
        }
        c.end();
    }

    /** The texts of the sections by the name that stands ahead of a colon in their headings. */
    private static Map<String, String> sections(String document) {
        Map<String, String> sections = new LinkedHashMap<>();
        for (String part : document.split("(?m)^## ")) {
            int end = part.indexOf('\n');
            String heading = part.substring(0, Math.max(end, 0));
            sections.put(heading.split(":")[0].trim(), part.substring(Math.max(end, 0)));
        }
        return sections;
    }

    private static boolean mark(String text, String quote, boolean[] quoted) {
        int at = text == null ? -1 : text.indexOf(quote);
        boolean found = at >= 0;
        while (at >= 0) {
            for (int k = at; k < at + quote.length(); k++) {
                quoted[k] = true;
            }
            at = text.indexOf(quote, at + 1);
        }
        return found;
    }

    private static void dueQuoted(Checks c, String name, String text, boolean[] quoted) {
        for (int[] clause : clauses(text)) {
            String told = text.substring(clause[0], clause[1]).trim();
            boolean seen = namesNoBoundary(told);
            for (int k = clause[0]; k < clause[1]; k++) {
                seen |= quoted[k];
            }
            if (!seen) {
                c.tell(name + ": no test quotes \"" + told + "\"");
            }
        }
    }

    private static boolean namesNoBoundary(String clause) {
        return clause.length() < SHORTEST_CLAUSE || LINES_WITHOUT_BOUNDARY.contains(clause)
            || WITHOUT_BOUNDARY.stream().anyMatch(clause::startsWith);
    }

    /** Where the clauses begin and end: lines, cut at each full stop and semicolon. */
    private static List<int[]> clauses(String text) {
        List<int[]> clauses = new ArrayList<>();
        int begin = 0;
        for (int k = 0; k < text.length(); k++) {
            boolean stop = ".;".indexOf(text.charAt(k)) >= 0 && k + 1 < text.length() && text.charAt(k + 1) == ' ';
            if (stop || text.charAt(k) == '\n') {
                if (!text.substring(begin, k).isBlank()) {
                    clauses.add(new int[] {begin, k});
                }
                begin = k + 1;
            }
        }
        return clauses;
    }
}
