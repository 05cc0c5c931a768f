import java.io.IOException;
import java.util.ArrayList;
import java.util.List;
import java.util.Set;
import java.util.TreeSet;

/** What the document says of all calls: those that look, those that are refused, and what adds up. */
public final class StoriesTest {
    public static void main(String[] args) throws Exception {
        Sentences.ofTerms(StoriesTest.class, "What it is", "Terms", "Exceptions");
    }

    // ---- stories

    private static List<Story> stories() {
        return List.of(wholeStory(), sharesStory(), samplesStory(), batchesStory(), daysStory());
    }

    /** It ends with rounds that just fill each vat, so that a vat's and a farm's room are seen too. */
    private static Story wholeStory() {
        Story story = new Story(MilkRound::new, Looks::all);
        story.then("addFarm", 60).then("addCow", 0, 20).then("addFarm", 200).then("addCow", 1, 30);
        story.then("addCow", 1, 30).then("addCow", 1, 30).then("addCow", 1, 30).then("addCow", 1, 29);
        story.then("addFarm", 30).then("addVat", 260).then("addVat", 290).then("pass", 3);
        story.then("beginRound").then("visit", 0).then("visit", 1).then("visit", 2).then("addCow", 2, 5);
        story.then("visit", 0).then("visit", 1).then("visit", 2).then("pass", 1).then("endRound", 1);
        story.then("grade", 1, 'x').then("addFarm", 10).then("addFarm", 11).then("addFarm", 12);
        story.then("addVat", 230).then("addVat", 200);
        story.then("beginRound").then("visit", 2).then("visit", 0).then("endRound", 0).then("close", 1);
        story.then("grade", 0, 'a').then("pass", 30).then("beginRound").then("visit", 0).then("visit", 2);
        story.then("endRound", 3).then("close", 0).then("grade", 2, 'b').then("grade", 3, 'c');
        story.then("close", 3).then("grade", 5, 'x').then("grade", 4, 'a');
        story.then("addCow", 3, 30).then("addCow", 4, 30).then("addCow", 5, 30);
        filled(story, 0, 0, 1);
        filled(story, 1, 0, 1, 2);
        filled(story, 2, 1, 2);
        filled(story, 3, 1);
        return story.then("pass", 30);
    }

    private static void filled(Story story, int vat, int... farms) {
        story.then("pass", 30).then("beginRound");
        for (int farm : farms) {
            story.then("visit", farm);
        }
        story.then("endRound", vat);
    }

    private static Story sharesStory() {
        Story story = new Story(Dairies::withSixtyShares, Looks::brief);
        story.then("beginRound").then("visit", 0).then("visit", 1).then("endRound", 1).then("beginRound");
        story.then("endRound", 0).then("beginRound").then("visit", 2).then("grade", 0, 'x').then("close", 0);
        return story.then("endRound", 0).then("share", 0, 59).then("stateOf", 0).then("close", 0).then("share", 1, 0);
    }

    private static Story samplesStory() {
        Story story = new Story(Dairies::withNinetySixSamples, Looks::brief);
        story.then("beginRound").then("visit", 3).then("visit", 2).then("visit", 1).then("visit", 0);
        story.then("endRound", 0).then("pass", 1).then("beginRound").then("close", 0).then("endRound", 0);
        story.then("grade", 99, 'x').then("grade", 98, 'a').then("grade", 97, 'x').then("grade", 96, 'b');
        return story.then("blame", 0).then("blame", 2).then("balanceBySamples", 0).then("loss", 16).then("worth", 16);
    }

    private static Story batchesStory() {
        Story story = new Story(() -> Dairies.withBatches(19), Looks::brief);
        story.then("close", 0).then("pass", 1).then("beginRound").then("visit", 0).then("endRound", 1);
        story.then("grade", 19, 'b').then("grade", 20, 'x').then("worth", 19).then("inVat", 1).then("wayOf", 20);
        return story.then("beginRound").then("endRound", 0).then("pay", 0).then("blame", 0);
    }

    private static Story daysStory() {
        Story story = new Story(() -> onDay960(Dairies.withFarms(2)), Looks::brief);
        story.then("pass", 9).then("pass", 1).then("pass", 20).then("pass", 8).then("beginRound").then("visit", 0);
        return story.then("pass", 1).then("visit", 1).then("inTanker").then("milkOf", 0, 999);
    }

    private static MilkRound onDay960(MilkRound dairy) {
        for (int times = 0; times < 31; times++) {
            dairy.pass(30);
        }
        dairy.pass(29);
        return dairy;
    }

    // ---- what it is

    @Sentence(of = "What it is", says = "A dairy: farms with cows that give milk by days, rounds of a tanker that "
            + "collects it, vats into which it is pumped, samples that are graded days later, milk that spoils a mixed "
            + "vat, and pay and blame by shares.")
    private static void fromMilkToBlame() {
        MilkRound dairy = new MilkRound();
        dairy.addFarm(200);
        dairy.addFarm(100);
        dairy.addCow(0, 20);
        dairy.addCow(1, 30);
        dairy.addVat(500);
        Check.due("pass(5), 16 to 20 and 26 to 30", 40, dairy.pass(5));
        Check.due("endRound(0)", 190, Dairies.collect(dairy, 2, 0));
        Check.due("close(0)", 0, dairy.close(0));
        dairy.pass(3);
        Check.due("grade(0, 'x')", 1, dairy.grade(0, 'x'));
        Check.due("grade(1, 'a')", 0, dairy.grade(1, 'a'));
        Check.due("pay(1)", 0L, dairy.pay(1));
        Check.due("blame(0)", 4000L, dairy.blame(0));
        Check.due("spoiltShare()", 1f, dairy.spoiltShare());
    }

    @Sentence(of = "What it is", says = "An object is used for at most 512 calls after it has been made; what later "
            + "calls answer is free.")
    private static void fiveHundredAndTwelveCalls() {
        MilkRound dairy = Dairies.withNinetySixSamples();
        int made = 6 * 2 + 1 + 1 + 16 * 10;
        while (made + 3 <= 511) {
            dairy.beginRound();
            dairy.endRound(0);
            made += 2;
        }
        while (made < 511) {
            dairy.day();
            made++;
        }
        Check.due("samples(), the 512th call", 96, dairy.samples());
    }

    // ---- terms

    private static final String CALLS = "Its calls are those of a dairy's office: farms, vats and rounds are written, "
            + "days pass, grades come, and all other calls look.";

    @Sentence(of = "Terms", says = CALLS)
    private static void looksChangeNothing() {
        Story story = wholeStory();
        for (int at = 0; at <= story.length(); at++) {
            String due = story.tellOn(story.tellUpTo(at), at);
            MilkRound dairy = story.tellUpTo(at);
            String first = Looks.all(dairy);
            Check.due("all looks again after " + at + " calls", first, Looks.all(dairy));
            MilkRound looked = story.tellUpTo(at);
            Looks.all(looked);
            Check.due("the story with looks after " + at + " calls", due, story.tellOn(looked, at));
        }
    }

    @Sentence(of = "Terms", says = "Blame and pay add up to the vat.")
    private static void blameAndPayAddUp() {
        int[] litres = {31, 53, 70, 20};
        for (int grades = 0; grades < 256; grades++) {
            MilkRound dairy = Dairies.withBatch(litres);
            int vat = 0;
            for (int sample = 0; sample < 4; sample++) {
                int grade = grades >> 2 * sample & 3;
                dairy.grade(sample, "abcx".charAt(grade));
                vat += litres[sample] * new int[] {40, 34, 25, 0}[grade];
            }
            long pay = 0;
            long blame = 0;
            for (int farm = 0; farm < 4; farm++) {
                pay += dairy.pay(farm);
                blame += dairy.blame(farm);
            }
            boolean spoilt = dairy.stateOf(0) == 'x';
            boolean onlySpoilt = grades == 255;
            Check.due("the pay of all farms, grades " + grades, spoilt ? 0L : vat, pay);
            Check.due("the blame of all farms, grades " + grades, spoilt && !onlySpoilt ? (long) vat : 0L, blame);
            Check.due("worth(0) and loss(0), grades " + grades, vat, dairy.worth(0) + dairy.loss(0));
        }
    }

    // ---- exceptions

    @Sentence(of = "Exceptions", says = "A method that throws an exception changes nothing.")
    private static void refusedCallsChangeNothing() throws IOException {
        Set<String> refused = new TreeSet<>();
        for (Story story : stories()) {
            for (int at = 0; at <= story.length(); at++) {
                String due = story.tellOn(story.tellUpTo(at), at);
                for (Call call : callsToRefuse()) {
                    MilkRound dairy = story.tellUpTo(at);
                    String answer = call.on(dairy);
                    if (answer.startsWith("throws.")) {
                        refused.add(call.name() + " " + answer);
                        Check.due(at + " calls of the story, then " + call + " " + answer + ", then the others", due,
                                story.tellOn(dairy, at));
                    }
                }
            }
        }
        Check.due("what was refused", Document.read().refusals(), refused);
    }

    /** Calls some of which are refused everywhere, some only at some places of a story. */
    private static List<Call> callsToRefuse() {
        List<Call> calls = new ArrayList<>();
        for (String name : List.of("beginRound", "bestVat", "spoiltShare", "meanPay")) {
            calls.add(new Call(name));
        }
        addAll(calls, "addFarm", 9, 201, 50);
        addAll(calls, "addVat", 99, 901, 100);
        addAll(calls, "pass", 0, 31, 1, 10, 30);
        for (String name : List.of("visit", "endRound", "close")) {
            addAll(calls, name, -1, 0, 1, 2, 3, 4, 5, 6);
        }
        for (String name : List.of("inTank", "pay", "blame", "balanceBySamples", "inVat", "farmOf", "litres", "gradeOf",
                "wayOf", "stateOf", "worth", "loss")) {
            addAll(calls, name, -1, 0, 2, 6, 20, 100);
        }
        for (int number : new int[] {-1, 0, 1, 2, 5, 6, 16, 96, 100}) {
            for (int best : new int[] {4, 20, 31}) {
                calls.add(new Call("addCow", number, best));
            }
            for (char grade : new char[] {'b', 'd', 'x'}) {
                calls.add(new Call("grade", number, grade));
            }
            calls.add(new Call("milkOf", number, 1000));
            calls.add(new Call("milkOf", number, -1));
            calls.add(new Call("share", number, -1));
            calls.add(new Call("share", number, 60));
        }
        return calls;
    }

    private static void addAll(List<Call> calls, String name, int... numbers) {
        for (int number : numbers) {
            calls.add(new Call(name, number));
        }
    }

    private static final String FIRST =
            "If several exceptions apply, the one that is documented first is thrown.";

    @Sentence(of = "Exceptions", says = FIRST)
    private static void firstOfAddFarm() {
        MilkRound dairy = Dairies.withFarms(6);
        Check.badArgument(dairy, "addFarm(9), a seventh", () -> dairy.addFarm(9));
        Check.badArgument(dairy, "addFarm(201), a seventh", () -> dairy.addFarm(201));
        Check.badState(dairy, "addFarm(10), a seventh", () -> dairy.addFarm(10));
    }

    @Sentence(of = "Exceptions", says = FIRST)
    private static void firstOfAddCow() {
        MilkRound dairy = Dairies.withFarms(1);
        for (int cow = 1; cow < 5; cow++) {
            dairy.addCow(0, 5);
        }
        for (int best : new int[] {4, 31}) {
            Check.noIndex(dairy, "addCow(1, " + best + ")", () -> dairy.addCow(1, best));
            Check.noIndex(dairy, "addCow(-1, " + best + ")", () -> dairy.addCow(-1, best));
            Check.badArgument(dairy, "addCow(0, " + best + "), a sixth", () -> dairy.addCow(0, best));
        }
        Check.badState(dairy, "addCow(0, 5), a sixth", () -> dairy.addCow(0, 5));
    }

    @Sentence(of = "Exceptions", says = FIRST)
    private static void firstOfMilkOf() {
        MilkRound dairy = Dairies.withFarms(1);
        for (int day : new int[] {-1, 1000}) {
            Check.noIndex(dairy, "milkOf(1, " + day + ")", () -> dairy.milkOf(1, day));
            Check.noIndex(dairy, "milkOf(-1, " + day + ")", () -> dairy.milkOf(-1, day));
            Check.badArgument(dairy, "milkOf(0, " + day + ")", () -> dairy.milkOf(0, day));
        }
    }

    @Sentence(of = "Exceptions", says = FIRST)
    private static void firstOfAddVat() {
        MilkRound dairy = new MilkRound();
        for (int vat = 0; vat < 4; vat++) {
            dairy.addVat(100);
        }
        Check.badArgument(dairy, "addVat(99), a fifth", () -> dairy.addVat(99));
        Check.badArgument(dairy, "addVat(901), a fifth", () -> dairy.addVat(901));
        Check.badState(dairy, "addVat(100), a fifth", () -> dairy.addVat(100));
    }

    @Sentence(of = "Exceptions", says = FIRST)
    private static void firstOfVisit() {
        MilkRound dairy = Dairies.withNinetySixSamples();
        Check.noIndex(dairy, "visit(6) without a round", () -> dairy.visit(6));
        Check.noIndex(dairy, "visit(-1) without a round", () -> dairy.visit(-1));
        Check.badState(dairy, "visit(5) without a round", () -> dairy.visit(5));
        Dairies.collect(dairy, 4, 0);
        dairy.beginRound();
        Check.noIndex(dairy, "visit(6) at 100 samples", () -> dairy.visit(6));
        Check.noIndex(dairy, "visit(-1) at 100 samples", () -> dairy.visit(-1));
        Check.badState(dairy, "visit(5) at 100 samples", () -> dairy.visit(5));
    }

    @Sentence(of = "Exceptions", says = FIRST)
    private static void firstOfEndRound() {
        MilkRound dairy = Dairies.withFullTanks(200);
        dairy.addVat(100);
        Check.noIndex(dairy, "endRound(1) without a round", () -> dairy.endRound(1));
        Check.noIndex(dairy, "endRound(-1) without a round", () -> dairy.endRound(-1));
        Check.badState(dairy, "endRound(0) without a round", () -> dairy.endRound(0));
        dairy.beginRound();
        dairy.visit(0);
        Check.noIndex(dairy, "endRound(1) with too much", () -> dairy.endRound(1));
        Check.noIndex(dairy, "endRound(-1) with too much", () -> dairy.endRound(-1));
        Check.unsupported(dairy, "endRound(0) with too much", () -> dairy.endRound(0));
    }

    @Sentence(of = "Exceptions", says = FIRST)
    private static void firstOfClose() {
        MilkRound dairy = Dairies.withBatches(20);
        Check.noIndex(dairy, "close(2), a 21st", () -> dairy.close(2));
        Check.noIndex(dairy, "close(-1), a 21st", () -> dairy.close(-1));
        Check.unsupported(dairy, "close(1), which is empty, a 21st", () -> dairy.close(1));
        Check.badState(dairy, "close(0), a 21st", () -> dairy.close(0));
    }

    @Sentence(of = "Exceptions", says = FIRST)
    private static void firstOfGrade() {
        MilkRound dairy = Dairies.withBatch(50);
        dairy.grade(0, 'a');
        for (char grade : new char[] {'d', '-', 'X'}) {
            Check.noIndex(dairy, "grade(1, '" + grade + "')", () -> dairy.grade(1, grade));
            Check.noIndex(dairy, "grade(-1, '" + grade + "')", () -> dairy.grade(-1, grade));
            Check.badArgument(dairy, "grade(0, '" + grade + "') again", () -> dairy.grade(0, grade));
        }
        Check.badState(dairy, "grade(0, 'b') again", () -> dairy.grade(0, 'b'));
    }

    @Sentence(of = "Exceptions", says = FIRST)
    private static void firstOfShare() {
        MilkRound dairy = Dairies.withBatch(50);
        for (int index : new int[] {-1, 1, 60}) {
            Check.noIndex(dairy, "share(1, " + index + ")", () -> dairy.share(1, index));
            Check.noIndex(dairy, "share(-1, " + index + ")", () -> dairy.share(-1, index));
            Check.noElement(dairy, "share(0, " + index + ")", () -> dairy.share(0, index));
        }
    }
}
