import java.util.Map;
import java.util.TreeMap;

/** Tries that lie just within and just beyond each limit of signing, nothing else deciding them. */
public final class SigningEdgesTest {
    private static final int MOST_LOOKS = 20000;
    private static final int ENOUGH = 2;
    private static final String[] EDGES = {
        "z = 503", "z = -503", "z = 504", "z = -504",
        "low = 1014", "low = -1014", "low = 1015", "low = -1015"
    };

    /** The edge that decides this try, or null when it is far from all of them or beyond several. */
    private static String edgeOf(Reference.Try t) {
        int greatest = 0;
        int least = 0;
        for (long x : Reference.flat(t.z)) {
            greatest = Math.max(greatest, Reference.centered(x));
            least = Math.min(least, Reference.centered(x));
        }
        boolean lowsHold = t.greatestLow < 1015 && t.leastLow > -1015;
        if (lowsHold && (greatest == 503 || greatest == 504) && -least < 503) {
            return "z = " + greatest;
        }
        if (lowsHold && (least == -503 || least == -504) && greatest < 503) {
            return "z = " + least;
        }
        if (t.sizeZ >= 504) {
            return null;
        }
        if ((t.greatestLow == 1014 || t.greatestLow == 1015) && t.leastLow > -1014) {
            return "low = " + t.greatestLow;
        }
        if ((t.leastLow == -1014 || t.leastLow == -1015) && t.greatestLow < 1014) {
            return "low = " + t.leastLow;
        }
        return null;
    }

    private static boolean allFound(Map<String, Integer> found) {
        for (String edge : EDGES) {
            if (found.getOrDefault(edge, 0) < ENOUGH) {
                return false;
            }
        }
        return true;
    }

    private static void limitsOfSizes() {
        Map<String, Integer> found = new TreeMap<>();
        for (int n = 0; n < MOST_LOOKS && !allFound(found); n++) {
            long seed = n % 50;
            Reference reference = new Reference();
            reference.key(seed);
            Reference.Try t = reference.look(n, 1);
            String edge = edgeOf(t);
            if (edge != null) {
                found.merge(edge, 1, Integer::sum);
                ShortVectorSigner x = new ShortVectorSigner();
                x.key(seed);
                boolean beyond = edge.contains("504") || edge.contains("1015");
                Due.due(edge + ": key(" + seed + "), sign(" + n + ", 1)", x.sign(n, 1), beyond ? -2 : 1);
                Due.due(edge + ": verify()", x.verify(), !beyond);
            }
        }
        Due.due("all edges are found", allFound(found), true);
    }

    /** So many hints are rare: these were searched for. Only the number of hints can fail these tries. */
    private static void numberOfHints(long seed, long with, int hints) {
        Reference reference = new Reference();
        reference.key(seed);
        Due.due("hints of key(" + seed + "), sign(" + with + ", 1)", reference.look(with, 1).hintCount, hints);
        ShortVectorSigner x = new ShortVectorSigner();
        x.key(seed);
        Due.due(hints + " hints: key(" + seed + "), sign(" + with + ", 1)", x.sign(with, 1), hints > 12 ? -2 : 1);
        Due.due(hints + " hints: signatureByte(61)", x.signatureByte(61), hints > 12 ? 0 : hints);
        Due.due(hints + " hints: verify()", x.verify(), hints <= 12);
        Due.due(hints + " hints: sign(" + with + ", 30)", x.sign(with, 30), reference.sign(with, 30));
        for (int i = 0; i < 62; i++) {
            Due.due(hints + " hints: signatureByte(" + i + ")", x.signatureByte(i), reference.signatureByte(i));
        }
        Due.due(hints + " hints: verify() at the end", x.verify(), true);
    }

    public static void main(String[] args) {
        limitsOfSizes();
        numberOfHints(102896L, 39082L, 12);
        numberOfHints(186690L, 2563581L, 12);
        numberOfHints(186690L, 2063678L, 13);
        numberOfHints(102896L, 7876747L, 13);
        numberOfHints(168737L, 361835L, 14);
        Due.end();
    }
}
