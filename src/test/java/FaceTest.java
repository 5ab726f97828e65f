import java.io.IOException;
import java.nio.file.Files;
import java.nio.file.Path;
import java.util.ArrayList;
import java.util.List;
import java.util.regex.Matcher;
import java.util.regex.Pattern;

/** The public face: each call as its promise tells it, in the document's order, under the document's headings. */
public final class FaceTest {
    private static final Pattern MEMBER = Pattern.compile("(?m)^ {4}public ([^{;]*?) *[{;]");
    private static final Pattern CALL = Pattern.compile("(?m)^ {4}public int (\\w+)\\(");
    private static final Check CHECK = new Check();

    private final String document;
    private final String source;

    private FaceTest(String document, String source) {
        this.document = document;
        this.source = source;
    }

    public static void main(String[] args) throws IOException {
        Path shared = Path.of(System.getProperty("shared")).resolve("DOC.md");
        FaceTest test = new FaceTest(Files.readString(shared), Files.readString(Path.of(System.getProperty("source"))));
        test.wholeFace();
        test.constants();
        test.signedUpToLaws();
        test.signedFromTrips();
        test.headings();
        CHECK.end();
    }

    /** The code between the words "The public face" and the end of its block. */
    private String face() {
        int from = document.indexOf("```java", document.indexOf("## The public face"));
        return document.substring(from, document.indexOf("```", from + 7));
    }

    private static List<String> membersOf(String code) {
        List<String> members = new ArrayList<>();
        for (Matcher member = MEMBER.matcher(code); member.find();) {
            members.add(member.group(1));
        }
        return members;
    }

    private void wholeFace() {
        CHECK.promise("The public face");
        List<String> due = membersOf(face());
        List<String> got = membersOf(source);
        CHECK.due("members that the document tells", due.size(), 34);
        CHECK.due("members", got.size(), due.size());
        for (int i = 0; i < Math.min(due.size(), got.size()); i++) {
            CHECK.due("member " + i + ", '" + got.get(i) + "' for '" + due.get(i) + "'", got.get(i).equals(due.get(i)) ? 1 : 0, 1);
        }
    }

    private void constants() {
        CHECK.promise("The public face, 'NONE = -1, FULL = -2, STATE = -3, THERE = -4, NO_WAY = -5, NO_VALUE = -2000000000'");
        CHECK.due("NONE", HackneyStands.NONE, -1);
        CHECK.due("FULL", HackneyStands.FULL, -2);
        CHECK.due("STATE", HackneyStands.STATE, -3);
        CHECK.due("THERE", HackneyStands.THERE, -4);
        CHECK.due("NO_WAY", HackneyStands.NO_WAY, -5);
        CHECK.due("NO_VALUE", HackneyStands.NO_VALUE, -2000000000);
    }

    // ---- each call as its promise tells it

    private void signedUpToLaws() {
        signed("Promise 1", "HackneyStands()");
        signed("Promise 2", "int corner()");
        signed("Promise 3", "int street(int ends, int yards, int bad)");
        signed("Promise 4", "int shut(int street, int from, int to)");
        signed("Promise 5", "int sun(int month, int rise, int set)");
        signed("Promise 6", "int way(int a, int b, int minute)");
        signed("Promise 7", "int step(int i)");
        signed("Promise 8", "int night(int minute)");
        signed("Promise 9", "int coach(int plate, int home)");
        signed("Promise 10", "int licence(int coach, int year, int holder)");
        signed("Promise 11", "int look(int coach, int day)");
        signed("Promise 12", "int stand(int corner, int places)");
        signed("Promise 13", "int go(int coach, int stand)");
        signed("Promise 14", "int about(int coach, int what)");
        signed("Promise 15", "int turn(int stand, int i)");
        signed("Promise 16", "int feed(int n, int v)");
        signed("Promise 17", "int law(int kind, int from)");
        signed("Promise 18", "int inForce(int kind, int day, int k)");
        signed("Promise 19", "int says(int law, int yards, int wait, int what, int bad)");
    }

    private void signedFromTrips() {
        signed("Promise 20", "int call(int from, int to, int what)");
        signed("Promise 21", "int why(int coach, int from, int to, int what)");
        signed("Promise 22", "int minutes(int n)");
        signed("Promise 23", "int trip(int i, int what)");
        signed("Promise 24", "int due(int trip, int k, int what)");
        signed("Promise 25", "int refusal(int i, int what)");
        signed("Promise 26", "int complain(int trip, int paid)");
        signed("Promise 27", "int judged(int i, int what)");
        signed("Promise 28", "int lost(int sort, int plate, int from, int to)");
        signed("Promise 29", "int found(int sort, int coach)");
        signed("Promise 30", "int joined(int lost)");
        signed("Promise 31", "int fits(int lost)");
        signed("Promise 32", "int tried(int a, int b, int days)");
        signed("Promise 33", "int count(int what)");
    }

    private void signed(String where, String call) {
        CHECK.promise(where + ", '`" + call + "`:'");
        CHECK.due("told by the document's face", membersOf(face()).contains(call) ? 1 : 0, 1);
        CHECK.due("told by the class", membersOf(source).contains(call) ? 1 : 0, 1);
    }

    // ---- what stands ahead of the calls

    private void headings() {
        CHECK.sentence("Terms", "Ahead of the calls `corner`, `street`, `shut`, `sun`, `way`, `step`, `night` the interface says: "
            + "---- the city.");
        heads("the city", "corner", "street", "shut", "sun", "way", "step", "night");
        CHECK.sentence("Terms", "Ahead of the calls `coach`, `licence`, `look`, `stand`, `go`, `about`, `turn` the interface "
            + "says: ---- coaches, stands.");
        heads("coaches, stands", "coach", "licence", "look", "stand", "go", "about", "turn");
        CHECK.sentence("Terms", "Ahead of the calls `feed`, `law`, `inForce`, `says` the interface says: ---- laws.");
        heads("laws", "feed", "law", "inForce", "says");
        CHECK.sentence("Terms", "Ahead of the calls `call`, `why`, `minutes`, `trip`, `due`, `refusal` the interface says: "
            + "---- trips.");
        heads("trips", "call", "why", "minutes", "trip", "due", "refusal");
        CHECK.sentence("Terms", "Ahead of the calls `complain`, `judged`, `lost`, `found`, `joined`, `fits` the interface says: "
            + "---- complaints, things.");
        heads("complaints, things", "complain", "judged", "lost", "found", "joined", "fits");
        CHECK.sentence("Terms", "Ahead of the calls `tried`, `count` the interface says: ---- laws tried.");
        heads("laws tried", "tried", "count");
    }

    /** Whether just these calls stand between a heading and the next one. */
    private void heads(String heading, String... calls) {
        int from = source.indexOf("\n    // ---- " + heading + "\n");
        CHECK.due("the heading stands there", from >= 0 ? 1 : 0, 1);
        int to = source.indexOf("// ---- ", from + heading.length() + 10);
        List<String> got = new ArrayList<>();
        for (Matcher call = CALL.matcher(source.substring(Math.max(0, from), Math.max(from, to))); call.find();) {
            got.add(call.group(1));
        }
        CHECK.due("calls under it, " + got, got.equals(List.of(calls)) ? 1 : 0, 1);
    }
}
