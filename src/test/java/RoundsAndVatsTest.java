/** Promises 8 to 15, sentence by sentence. */
public final class RoundsAndVatsTest {
    public static void main(String[] args) throws Exception {
        Sentences.ofPromises(RoundsAndVatsTest.class, 8, 15);
    }

    // ---- promise 8

    @Sentence(of = "Promise 8", says = "Adds a vat.")
    private static void newVatIsOpenAndEmpty() {
        MilkRound dairy = Dairies.withFullTanks(100);
        Check.noIndex(dairy, "inVat(0) before", () -> dairy.inVat(0));
        dairy.addVat(100);
        Check.due("inVat(0)", 0, dairy.inVat(0));
        Check.noIndex(dairy, "inVat(1)", () -> dairy.inVat(1));
        dairy.beginRound();
        dairy.visit(0);
        dairy.addVat(200);
        Check.due("inVat(1), added in the round", 0, dairy.inVat(1));
        Check.due("inTanker(), when it is added", 100, dairy.inTanker());
        Check.due("endRound(1)", 100, dairy.endRound(1));
    }

    @Sentence(of = "Promise 8", says = "`room`: how many litres it holds, 100 to 900")
    private static void leastRoomOfAVat() {
        for (int room : new int[] {100, 101, 127, 128, 199}) {
            MilkRound dairy = Dairies.withFullTanks(room, room + 1);
            dairy.addVat(room);
            dairy.addVat(room);
            Check.due("endRound(0), just room for " + room, room, Dairies.round(dairy, 0, 0));
            dairy.beginRound();
            dairy.visit(1);
            Check.unsupported(dairy, "endRound(1), no room for 1 more than " + room, () -> dairy.endRound(1));
        }
    }

    @Sentence(of = "Promise 8", says = "`room`: how many litres it holds, 100 to 900")
    private static void mostRoomOfAVat() {
        MilkRound dairy = Dairies.withFullTanks(200, 200, 200, 200, 100, 10);
        dairy.addVat(899);
        dairy.addVat(900);
        for (int vat = 0; vat < 2; vat++) {
            Check.due("endRound(" + vat + ")", 400, Dairies.round(dairy, vat, 0, 1));
            Check.due("endRound(" + vat + ") again", 800, Dairies.round(dairy, vat, 2, 3));
            dairy.pass(30);
        }
        dairy.beginRound();
        dairy.visit(4);
        Check.unsupported(dairy, "endRound(0), 1 litre too much for 899", () -> dairy.endRound(0));
        Check.due("endRound(1), just room for 900", 900, dairy.endRound(1));
        dairy.beginRound();
        dairy.visit(5);
        Check.unsupported(dairy, "endRound(1), no more than 900", () -> dairy.endRound(1));
    }

    @Sentence(of = "Promise 8", says = "Returns the number of the vat.")
    private static void numbersOfVats() {
        MilkRound dairy = new MilkRound();
        for (int vat = 0; vat < 4; vat++) {
            Check.due("addVat(500)", vat, dairy.addVat(500));
        }
    }

    @Sentence(of = "Promise 8", says = "Throws `IllegalArgumentException` if the number is out of range")
    private static void roomOutOfRange() {
        MilkRound dairy = new MilkRound();
        for (int room : Dairies.outside(100, 900)) {
            Check.badArgument(dairy, "addVat(" + room + ")", () -> dairy.addVat(room));
        }
        Check.due("addVat(100) after them", 0, dairy.addVat(100));
    }

    @Sentence(of = "Promise 8", says = "Throws `IllegalStateException` if there are 4 vats")
    private static void fifthVat() {
        MilkRound dairy = new MilkRound();
        for (int vat = 0; vat < 3; vat++) {
            dairy.addVat(500);
        }
        Check.due("addVat(500), the fourth", 3, dairy.addVat(500));
        Check.badState(dairy, "addVat(100), a fifth", () -> dairy.addVat(100));
        Check.badState(dairy, "addVat(900), a fifth", () -> dairy.addVat(900));
        Check.noIndex(dairy, "inVat(4)", () -> dairy.inVat(4));
    }

    // ---- promise 9

    @Sentence(of = "Promise 9", says = "Begins a round.")
    private static void newRoundIsUnderWay() {
        MilkRound dairy = Dairies.withFarms(1);
        dairy.addVat(100);
        Check.badState(dairy, "visit(0) before", () -> dairy.visit(0));
        dairy.beginRound();
        Check.due("inTanker()", 0, dairy.inTanker());
        Check.due("visit(0)", 5, dairy.visit(0));
        dairy.endRound(0);
        dairy.pass(1);
        dairy.beginRound();
        Check.due("inTanker() of the next round", 0, dairy.inTanker());
        Check.due("visit(0), visited in the round before", 5, dairy.visit(0));
    }

    @Sentence(of = "Promise 9", says = "Returns the number of rounds so far, this one included.")
    private static void numbersOfRounds() {
        MilkRound dairy = Dairies.withFarms(1);
        dairy.addVat(900);
        for (int rounds = 1; rounds <= 130; rounds++) {
            Check.due("beginRound()", rounds, dairy.beginRound());
            if (rounds % 2 == 0) {
                dairy.visit(0);
            }
            dairy.endRound(0);
        }
    }

    @Sentence(of = "Promise 9", says = "Throws `IllegalStateException` if a round is under way")
    private static void beginInARound() {
        MilkRound dairy = Dairies.withFarms(2);
        dairy.addVat(100);
        dairy.beginRound();
        Check.badState(dairy, "beginRound() at once", dairy::beginRound);
        dairy.visit(0);
        Check.badState(dairy, "beginRound() after a visit", dairy::beginRound);
        Check.badState(dairy, "visit(0), visited in the round that goes on", () -> dairy.visit(0));
        Check.due("visit(1) of the round that goes on", 5, dairy.visit(1));
        dairy.endRound(0);
        Check.due("beginRound(), the second", 2, dairy.beginRound());
    }

    // ---- promise 10

    @Sentence(of = "Promise 10", says = "Visits a farm.")
    private static void visitMovesMilkAndTakesASample() {
        MilkRound dairy = Dairies.withFullTanks(100, 60);
        dairy.beginRound();
        dairy.visit(1);
        Check.due("inTank(1)", 0, dairy.inTank(1));
        Check.due("inTank(0), not visited", 100, dairy.inTank(0));
        Check.due("inTanker()", 60, dairy.inTanker());
        Check.due("samples()", 1, dairy.samples());
        Check.due("farmOf(0)", 1, dairy.farmOf(0));
        Check.due("litres(0)", 60, dairy.litres(0));
        Check.due("gradeOf(0)", '-', dairy.gradeOf(0));
        Check.due("wayOf(0)", 't', dairy.wayOf(0));
        dairy.visit(0);
        Check.due("inTanker() after both", 160, dairy.inTanker());
        Check.due("samples() after both", 2, dairy.samples());
    }

    @Sentence(of = "Promise 10", says = "Returns the litres that are taken.")
    private static void visitOfAFullTanker() {
        MilkRound dairy = Dairies.withFullTanks(150, 150, 150, 70);
        dairy.addVat(900);
        dairy.beginRound();
        Check.due("visit(0)", 150, dairy.visit(0));
        Check.due("visit(1)", 150, dairy.visit(1));
        Check.due("visit(2), room for 100", 100, dairy.visit(2));
        Check.due("inTank(2), what is left", 50, dairy.inTank(2));
        Check.due("inTanker(), full", 400, dairy.inTanker());
        Check.due("visit(3), no room", 0, dairy.visit(3));
        Check.due("inTank(3), untouched", 70, dairy.inTank(3));
        Check.due("samples()", 3, dairy.samples());
        dairy.endRound(0);
        dairy.beginRound();
        Check.due("visit(2) in the next round, what was left", 50, dairy.visit(2));
    }

    @Sentence(of = "Promise 10", says = "Returns the litres that are taken.")
    private static void visitOfAnEmptyTank() {
        MilkRound dairy = Dairies.withFullTanks(100);
        dairy.addFarm(100);
        dairy.beginRound();
        Check.due("visit(1), nothing in it", 0, dairy.visit(1));
        Check.due("samples()", 0, dairy.samples());
        Check.due("inTanker()", 0, dairy.inTanker());
        Check.due("visit(0)", 100, dairy.visit(0));
    }

    @Sentence(of = "Promise 10", says = "Returns the litres that are taken.")
    private static void visitForOneLitre() {
        MilkRound dairy = Dairies.withFullTanks(200, 199, 100);
        dairy.addVat(900);
        dairy.beginRound();
        dairy.visit(0);
        dairy.visit(1);
        Check.due("visit(2), room for 1", 1, dairy.visit(2));
        Check.due("samples()", 3, dairy.samples());
        dairy.endRound(0);
        MilkRound rest = Dairies.withFullTanks(200, 101, 100);
        rest.addVat(900);
        Dairies.round(rest, 0, 0, 2, 1);
        rest.beginRound();
        Check.due("visit(1), 1 litre in it", 1, rest.visit(1));
    }

    @Sentence(of = "Promise 10", says = "Throws `IndexOutOfBoundsException` if there is no such farm")
    private static void visitOfNoFarm() {
        MilkRound dairy = new MilkRound();
        dairy.beginRound();
        Check.noIndex(dairy, "visit(0) without farms", () -> dairy.visit(0));
        dairy.addFarm(200);
        dairy.addFarm(200);
        for (int farm : Dairies.outside(0, 1)) {
            Check.noIndex(dairy, "visit(" + farm + ")", () -> dairy.visit(farm));
        }
        MilkRound full = Dairies.withFarms(6);
        full.beginRound();
        Check.noIndex(full, "visit(6) of six farms", () -> full.visit(6));
        Check.due("visit(5) of six farms", 5, full.visit(5));
    }

    private static final String VISIT_REFUSED = "Throws `IllegalStateException` if no round is under way, "
            + "or it visited this farm, or 100 samples were taken, also where nothing would be taken";

    @Sentence(of = "Promise 10", says = VISIT_REFUSED)
    private static void visitWithoutARound() {
        MilkRound dairy = Dairies.withFarms(1);
        dairy.addFarm(100);
        dairy.addVat(100);
        Check.badState(dairy, "visit(0) before all rounds", () -> dairy.visit(0));
        Check.badState(dairy, "visit(1) before all rounds, nothing in it", () -> dairy.visit(1));
        dairy.beginRound();
        dairy.endRound(0);
        Check.badState(dairy, "visit(0) after a round", () -> dairy.visit(0));
        Check.badState(dairy, "visit(1) after a round, nothing in it", () -> dairy.visit(1));
        dairy.beginRound();
        Check.due("visit(0) in a round", 5, dairy.visit(0));
    }

    @Sentence(of = "Promise 10", says = VISIT_REFUSED)
    private static void visitOfAVisitedFarm() {
        MilkRound dairy = Dairies.withFarms(2);
        dairy.addFarm(100);
        dairy.addVat(100);
        dairy.beginRound();
        dairy.visit(0);
        Check.badState(dairy, "visit(0) again, nothing in it", () -> dairy.visit(0));
        dairy.pass(1);
        Check.badState(dairy, "visit(0) again, with milk in it", () -> dairy.visit(0));
        Check.due("visit(2), nothing in it", 0, dairy.visit(2));
        Check.badState(dairy, "visit(2) again, nothing in it", () -> dairy.visit(2));
        dairy.addCow(2, 20);
        dairy.pass(1);
        Check.badState(dairy, "visit(2) again, with milk in it", () -> dairy.visit(2));
        Check.due("visit(1), not visited", 15, dairy.visit(1));
        dairy.endRound(0);
        dairy.beginRound();
        Check.due("visit(2) in the next round", 18, dairy.visit(2));
        Check.due("visit(0) in the next round", 10, dairy.visit(0));
    }

    @Sentence(of = "Promise 10", says = VISIT_REFUSED)
    private static void visitOfAVisitedFarmWithAFullTanker() {
        MilkRound dairy = Dairies.withFullTanks(200, 200, 50);
        dairy.addVat(900);
        dairy.beginRound();
        dairy.visit(0);
        dairy.visit(1);
        dairy.visit(2);
        Check.badState(dairy, "visit(2) again, no room for it", () -> dairy.visit(2));
        dairy.endRound(0);
        dairy.beginRound();
        Check.due("visit(2) in the next round", 50, dairy.visit(2));
    }

    @Sentence(of = "Promise 10", says = VISIT_REFUSED)
    private static void visitAtAHundredSamples() {
        MilkRound dairy = Dairies.withNinetySixSamples();
        dairy.beginRound();
        for (int farm = 0; farm < 3; farm++) {
            dairy.visit(farm);
        }
        Check.due("samples()", 99, dairy.samples());
        Check.due("visit(3), the hundredth sample", 5, dairy.visit(3));
        Check.due("samples()", 100, dairy.samples());
        Check.badState(dairy, "visit(4), with milk in it", () -> dairy.visit(4));
        Check.due("endRound(0)", 20, dairy.endRound(0));
        dairy.beginRound();
        Check.badState(dairy, "visit(0), nothing in it", () -> dairy.visit(0));
        Check.badState(dairy, "visit(5), with milk in it", () -> dairy.visit(5));
        Check.due("inTank(5), untouched", 5, dairy.inTank(5));
    }

    @Sentence(of = "Promise 10", says = VISIT_REFUSED)
    private static void visitOfNothingAtNinetyNineSamples() {
        MilkRound dairy = Dairies.withNinetySixSamples();
        Dairies.round(dairy, 0, 0, 1, 2);
        dairy.beginRound();
        Check.due("visit(0), nothing in it, at 99 samples", 0, dairy.visit(0));
        Check.due("visit(3), the hundredth sample", 5, dairy.visit(3));
        Check.badState(dairy, "visit(1), nothing in it, at 100 samples", () -> dairy.visit(1));
    }

    @Sentence(of = "Promise 10", says = VISIT_REFUSED)
    private static void visitAtAHundredSamplesWithAFullTanker() {
        MilkRound dairy = Dairies.withNinetySixSamples();
        Dairies.round(dairy, 0, 4, 5);
        dairy.pass(30);
        dairy.pass(10);
        dairy.beginRound();
        dairy.visit(0);
        dairy.visit(1);
        Check.due("inTanker(), full", 400, dairy.inTanker());
        Check.due("samples()", 100, dairy.samples());
        Check.badState(dairy, "visit(2), no room for it", () -> dairy.visit(2));
    }

    // ---- promise 11

    @Sentence(of = "Promise 11", says = "Ends the round: its milk is pumped into a vat.")
    private static void endOfARound() {
        MilkRound dairy = Dairies.withFullTanks(60, 50, 40);
        dairy.addVat(200);
        dairy.addVat(200);
        dairy.beginRound();
        dairy.visit(2);
        dairy.visit(0);
        dairy.endRound(1);
        Check.due("inTanker()", 0, dairy.inTanker());
        Check.due("inVat(1)", 100, dairy.inVat(1));
        Check.due("inVat(0)", 0, dairy.inVat(0));
        Check.due("wayOf(0)", 'v', dairy.wayOf(0));
        Check.due("wayOf(1)", 'v', dairy.wayOf(1));
        Check.badState(dairy, "visit(1) after it", () -> dairy.visit(1));
        Check.due("beginRound() after it", 2, dairy.beginRound());
    }

    @Sentence(of = "Promise 11", says = "Returns the litres in the vat then.")
    private static void litresOfTwoRounds() {
        MilkRound dairy = Dairies.withFullTanks(60, 40, 30);
        dairy.addVat(200);
        dairy.addVat(200);
        Check.due("endRound(0)", 60, Dairies.round(dairy, 0, 0));
        Check.due("endRound(0), on top", 100, Dairies.round(dairy, 0, 1));
        Check.due("endRound(1)", 30, Dairies.round(dairy, 1, 2));
    }

    @Sentence(of = "Promise 11", says = "Returns the litres in the vat then.")
    private static void litresOfARoundOfNothing() {
        MilkRound dairy = Dairies.withFullTanks(100);
        dairy.addVat(100);
        Check.due("endRound(0) of no visits", 0, Dairies.round(dairy, 0));
        Check.due("endRound(0)", 100, Dairies.round(dairy, 0, 0));
        Check.due("endRound(0) of no visits, into a full vat", 100, Dairies.round(dairy, 0));
        Check.due("endRound(0) of a visit of nothing, into a full vat", 100, Dairies.round(dairy, 0, 0));
        Check.badState(dairy, "visit(0) after it", () -> dairy.visit(0));
    }

    @Sentence(of = "Promise 11", says = "Throws `IndexOutOfBoundsException` if there is no such vat")
    private static void endInNoVat() {
        MilkRound dairy = Dairies.withFarms(1);
        dairy.beginRound();
        dairy.visit(0);
        Check.noIndex(dairy, "endRound(0) without vats", () -> dairy.endRound(0));
        dairy.addVat(200);
        dairy.addVat(200);
        for (int vat : Dairies.outside(0, 1)) {
            Check.noIndex(dairy, "endRound(" + vat + ")", () -> dairy.endRound(vat));
        }
        dairy.addVat(200);
        dairy.addVat(200);
        Check.noIndex(dairy, "endRound(4) of four vats", () -> dairy.endRound(4));
        Check.due("endRound(3) of four vats", 5, dairy.endRound(3));
    }

    @Sentence(of = "Promise 11", says = "Throws `IllegalStateException` if no round is under way")
    private static void endWithoutARound() {
        MilkRound dairy = Dairies.withFarms(1);
        dairy.addVat(200);
        Check.badState(dairy, "endRound(0) before all rounds", () -> dairy.endRound(0));
        Dairies.round(dairy, 0, 0);
        Check.badState(dairy, "endRound(0) again", () -> dairy.endRound(0));
        Check.due("beginRound()", 2, dairy.beginRound());
    }

    private static final String END_REFUSED = "Throws `UnsupportedOperationException` if there is no room for "
            + "all of it, or the vat would have more than 60 shares";

    @Sentence(of = "Promise 11", says = END_REFUSED)
    private static void endWithoutRoom() {
        MilkRound dairy = Dairies.withFullTanks(150, 151, 10);
        dairy.addVat(300);
        dairy.addVat(301);
        dairy.beginRound();
        dairy.visit(0);
        dairy.visit(1);
        Check.unsupported(dairy, "endRound(0), 1 litre too much", () -> dairy.endRound(0));
        Check.badState(dairy, "beginRound() in the round that goes on", dairy::beginRound);
        Check.due("inTanker() of the round that goes on", 301, dairy.inTanker());
        Check.badState(dairy, "visit(1), visited in the round that goes on", () -> dairy.visit(1));
        Check.due("endRound(1), just room", 301, dairy.endRound(1));
        dairy.beginRound();
        dairy.visit(2);
        Check.unsupported(dairy, "endRound(1), which is full", () -> dairy.endRound(1));
        Check.due("inVat(1), full", 301, dairy.inVat(1));
        Check.due("visit(0) of the round that goes on", 0, dairy.visit(0));
    }

    @Sentence(of = "Promise 11", says = END_REFUSED)
    private static void endWithRoomForAPart() {
        MilkRound dairy = Dairies.withFullTanks(60, 100, 41);
        dairy.addVat(100);
        dairy.addVat(101);
        Dairies.round(dairy, 0, 0);
        dairy.beginRound();
        dairy.visit(2);
        Check.unsupported(dairy, "endRound(0), room for 40 of 41", () -> dairy.endRound(0));
        dairy.visit(1);
        Check.unsupported(dairy, "endRound(1), 40 too much", () -> dairy.endRound(1));
        Check.due("inVat(0)", 60, dairy.inVat(0));
        Check.due("inVat(1)", 0, dairy.inVat(1));
        dairy.close(0);
        Check.unsupported(dairy, "endRound(0), 41 too much", () -> dairy.endRound(0));
    }

    @Sentence(of = "Promise 11", says = END_REFUSED)
    private static void endAtSixtyOneShares() {
        MilkRound dairy = Dairies.withSixtyShares();
        dairy.beginRound();
        dairy.visit(0);
        Check.unsupported(dairy, "endRound(0), 61 shares", () -> dairy.endRound(0));
        Check.badState(dairy, "beginRound() in the round that goes on", dairy::beginRound);
        Check.due("inTanker() of the round that goes on", 5, dairy.inTanker());
        Check.due("visit(1) of the round that goes on", 5, dairy.visit(1));
        Check.unsupported(dairy, "endRound(0), 62 shares", () -> dairy.endRound(0));
        Check.due("endRound(1), 2 shares", 10, dairy.endRound(1));
        Check.due("inVat(0)", 300, dairy.inVat(0));
    }

    @Sentence(of = "Promise 11", says = END_REFUSED)
    private static void endAtSixtyShares() {
        MilkRound dairy = Dairies.withFarms(6);
        dairy.addVat(900);
        for (int round = 0; round < 9; round++) {
            Dairies.collect(dairy, 6, 0);
            dairy.pass(1);
        }
        Dairies.collect(dairy, 5, 0);
        Check.due("endRound(0), 60 shares", 300, Dairies.round(dairy, 0, 5));
        Check.due("endRound(0), 60 shares and a round of no visits", 300, Dairies.round(dairy, 0));
        Check.due("endRound(0), 60 shares and a visit of nothing", 300, Dairies.round(dairy, 0, 0));
        dairy.close(0);
        dairy.pass(1);
        Check.due("endRound(0), open again", 30, Dairies.collect(dairy, 6, 0));
    }

    // ---- promise 12

    @Sentence(of = "Promise 12", says = "Returns how much is in the tanker.")
    private static void tankerOverVisits() {
        MilkRound dairy = Dairies.withFullTanks(60, 200, 200);
        dairy.addVat(100);
        dairy.beginRound();
        Check.due("inTanker() at first", 0, dairy.inTanker());
        dairy.visit(0);
        Check.due("inTanker() after a visit", 60, dairy.inTanker());
        Check.unsupported(dairy, "close(0)", () -> dairy.close(0));
        dairy.visit(1);
        Check.due("inTanker() after two", 260, dairy.inTanker());
        dairy.visit(2);
        Check.due("inTanker(), full", 400, dairy.inTanker());
        dairy.pass(30);
        dairy.grade(0, 'x');
        Check.due("inTanker() when days passed and a grade came", 400, dairy.inTanker());
    }

    @Sentence(of = "Promise 12", says = "Returns the litres, 0 if no round is under way.")
    private static void tankerWithoutARound() {
        MilkRound dairy = Dairies.withFullTanks(60);
        dairy.addVat(200);
        Check.due("inTanker() before all rounds", 0, dairy.inTanker());
        Dairies.round(dairy, 0, 0);
        Check.due("inTanker() after a round", 0, dairy.inTanker());
        dairy.close(0);
        Check.due("inTanker() after a close", 0, dairy.inTanker());
    }

    // ---- promise 13

    @Sentence(of = "Promise 13", says = "Returns how much is in a vat.")
    private static void vatOverRounds() {
        MilkRound dairy = Dairies.withFullTanks(60, 40);
        dairy.addVat(200);
        dairy.addVat(200);
        Check.due("inVat(1) at first", 0, dairy.inVat(1));
        dairy.beginRound();
        dairy.visit(0);
        Check.due("inVat(1) in a round", 0, dairy.inVat(1));
        dairy.endRound(1);
        Check.due("inVat(1) after it", 60, dairy.inVat(1));
        Check.due("inVat(0) after it", 0, dairy.inVat(0));
        Dairies.round(dairy, 1, 1);
        Check.due("inVat(1) after two", 100, dairy.inVat(1));
    }

    @Sentence(of = "Promise 13", says = "Returns the litres.")
    private static void vatFullAndEmptyAgain() {
        MilkRound dairy = Dairies.withFullTanks(100, 30);
        dairy.addVat(100);
        Dairies.round(dairy, 0, 0);
        Check.due("inVat(0), full", 100, dairy.inVat(0));
        dairy.close(0);
        Check.due("inVat(0), open again and empty", 0, dairy.inVat(0));
        Dairies.round(dairy, 0, 1);
        Check.due("inVat(0), filled again", 30, dairy.inVat(0));
    }

    @Sentence(of = "Promise 13", says = "Throws `IndexOutOfBoundsException` if there is no such vat")
    private static void litresOfNoVat() {
        MilkRound dairy = new MilkRound();
        Check.noIndex(dairy, "inVat(0) without vats", () -> dairy.inVat(0));
        dairy.addVat(200);
        dairy.addVat(200);
        for (int vat : Dairies.outside(0, 1)) {
            Check.noIndex(dairy, "inVat(" + vat + ")", () -> dairy.inVat(vat));
        }
        dairy.addVat(200);
        dairy.addVat(200);
        Check.noIndex(dairy, "inVat(4) of four vats", () -> dairy.inVat(4));
        Check.due("inVat(3) of four vats", 0, dairy.inVat(3));
    }

    // ---- promise 14

    private static final String BEST_VAT = "Returns, of the vats that have free room for what is in the tanker, "
            + "whatever their shares, the one with the least free room; of several, the one with the lowest number.";

    @Sentence(of = "Promise 14", says = BEST_VAT)
    private static void vatWithTheLeastFreeRoom() {
        MilkRound dairy = Dairies.withFullTanks(100, 150, 150);
        dairy.addVat(300);
        dairy.addVat(200);
        dairy.addVat(120);
        dairy.addVat(900);
        dairy.beginRound();
        Check.due("bestVat() for nothing", 2, dairy.bestVat());
        dairy.visit(0);
        Check.due("bestVat() for 100", 2, dairy.bestVat());
        dairy.endRound(3);
        dairy.beginRound();
        dairy.visit(1);
        Check.due("bestVat() for 150", 1, dairy.bestVat());
        dairy.endRound(0);
        dairy.beginRound();
        dairy.visit(2);
        Check.due("bestVat() for 150, free are 150, 200, 120, 800", 0, dairy.bestVat());
        dairy.endRound(0);
        Check.due("bestVat(), free are 0, 200, 120, 800", 0, dairy.bestVat());
    }

    @Sentence(of = "Promise 14", says = BEST_VAT)
    private static void vatThatHasJustRoom() {
        MilkRound dairy = Dairies.withFullTanks(200, 101);
        dairy.addVat(900);
        dairy.addVat(300);
        dairy.addVat(301);
        dairy.addVat(302);
        dairy.beginRound();
        dairy.visit(0);
        Check.due("bestVat() for 200", 1, dairy.bestVat());
        dairy.visit(1);
        Check.due("bestVat() for 301, 1 too much for the vat 1", 2, dairy.bestVat());
    }

    @Sentence(of = "Promise 14", says = BEST_VAT)
    private static void vatWithTheLowestNumber() {
        MilkRound dairy = Dairies.withFullTanks(100);
        dairy.addVat(300);
        dairy.addVat(250);
        dairy.addVat(200);
        dairy.addVat(200);
        Check.due("bestVat(), free are 300, 250, 200, 200", 2, dairy.bestVat());
        Dairies.round(dairy, 0, 0);
        Check.due("bestVat(), free are 200, 250, 200, 200", 0, dairy.bestVat());
        dairy.beginRound();
        Check.due("bestVat() in a round", 0, dairy.bestVat());
    }

    @Sentence(of = "Promise 14", says = BEST_VAT)
    private static void vatWhateverItsShares() {
        MilkRound dairy = Dairies.withSixtyShares();
        dairy.beginRound();
        dairy.visit(0);
        Check.due("bestVat(), 60 shares in the vat 0", 0, dairy.bestVat());
        Check.unsupported(dairy, "endRound(0)", () -> dairy.endRound(0));
        Check.due("endRound(1)", 5, dairy.endRound(1));
    }

    @Sentence(of = "Promise 14", says = "Without a round, 0 litres are in the tanker.")
    private static void bestVatWithoutARound() {
        MilkRound dairy = Dairies.withFullTanks(200, 200);
        dairy.addVat(400);
        dairy.addVat(150);
        dairy.addVat(100);
        Check.due("bestVat() before all rounds", 2, dairy.bestVat());
        dairy.beginRound();
        dairy.visit(0);
        dairy.visit(1);
        Check.due("bestVat() for 400", 0, dairy.bestVat());
        dairy.endRound(0);
        Check.due("bestVat() after the round, the vat 0 is full", 0, dairy.bestVat());
        dairy.close(0);
        Check.due("bestVat() after the round, the vat 0 is empty", 2, dairy.bestVat());
    }

    @Sentence(of = "Promise 14", says = "Returns the number of the vat.")
    private static void bestVatsNumber() {
        int[][] rooms = {{100, 101, 102, 103}, {101, 100, 102, 103}, {102, 101, 100, 103}, {103, 101, 102, 100}};
        for (int vat = 0; vat < 4; vat++) {
            MilkRound dairy = new MilkRound();
            for (int room : rooms[vat]) {
                dairy.addVat(room);
            }
            Check.due("bestVat()", vat, dairy.bestVat());
        }
    }

    @Sentence(of = "Promise 14", says = "Throws `NoSuchElementException` if there is none")
    private static void noBestVat() {
        MilkRound dairy = Dairies.withFullTanks(200, 101);
        Check.noElement(dairy, "bestVat() without vats", dairy::bestVat);
        dairy.beginRound();
        dairy.visit(0);
        dairy.visit(1);
        Check.noElement(dairy, "bestVat() for 301, without vats", dairy::bestVat);
        dairy.addVat(300);
        dairy.addVat(100);
        Check.noElement(dairy, "bestVat(), 1 too much", dairy::bestVat);
        dairy.addVat(301);
        Check.due("bestVat(), just room", 2, dairy.bestVat());
    }

    @Sentence(of = "Promise 14", says = "Throws `NoSuchElementException` if there is none")
    private static void noBestVatAmongFilledVats() {
        MilkRound dairy = Dairies.withFullTanks(60, 40, 41);
        dairy.addVat(100);
        Dairies.round(dairy, 0, 0);
        dairy.beginRound();
        dairy.visit(1);
        Check.due("bestVat() for 40, free are 40", 0, dairy.bestVat());
        dairy.visit(2);
        Check.noElement(dairy, "bestVat() for 81, free are 40", dairy::bestVat);
        dairy.close(0);
        Check.due("bestVat() after a close", 0, dairy.bestVat());
    }

    // ---- promise 15

    @Sentence(of = "Promise 15", says = "Closes a vat.")
    private static void closedVat() {
        MilkRound dairy = Dairies.withFullTanks(60, 40, 30, 20);
        dairy.addVat(200);
        dairy.addVat(200);
        Dairies.round(dairy, 1, 1, 0);
        Dairies.round(dairy, 0, 2);
        dairy.close(1);
        Check.due("inVat(1), open again and empty", 0, dairy.inVat(1));
        Check.due("inVat(0), beside it", 30, dairy.inVat(0));
        Check.due("batches()", 1, dairy.batches());
        Check.due("share(0, 0)", 0, dairy.share(0, 0));
        Check.due("share(0, 1)", 1, dairy.share(0, 1));
        Check.noElement(dairy, "share(0, 2)", () -> dairy.share(0, 2));
        Check.due("wayOf(0)", 'b', dairy.wayOf(0));
        Check.due("wayOf(2), beside it", 'v', dairy.wayOf(2));
        Check.due("endRound(1) after it", 20, Dairies.round(dairy, 1, 3));
    }

    @Sentence(of = "Promise 15", says = "Closes a vat.")
    private static void closeInARound() {
        MilkRound dairy = Dairies.withFullTanks(60, 40);
        dairy.addVat(100);
        Dairies.round(dairy, 0, 0);
        dairy.beginRound();
        dairy.visit(1);
        Check.due("close(0) in a round", 0, dairy.close(0));
        Check.due("wayOf(0)", 'b', dairy.wayOf(0));
        Check.due("wayOf(1), in the tanker all the same", 't', dairy.wayOf(1));
        Check.due("inTanker()", 40, dairy.inTanker());
        Check.due("endRound(0)", 40, dairy.endRound(0));
    }

    @Sentence(of = "Promise 15", says = "Returns the number of the batch.")
    private static void numbersOfBatches() {
        MilkRound dairy = Dairies.withFarms(1);
        dairy.addVat(100);
        dairy.addVat(100);
        for (int batch = 0; batch < 20; batch++) {
            Dairies.round(dairy, batch % 2, 0);
            Check.due("close(" + batch % 2 + ")", batch, dairy.close(batch % 2));
            dairy.pass(1);
        }
    }

    @Sentence(of = "Promise 15", says = "Throws `IndexOutOfBoundsException` if there is no such vat")
    private static void closeOfNoVat() {
        MilkRound dairy = new MilkRound();
        Check.noIndex(dairy, "close(0) without vats", () -> dairy.close(0));
        dairy.addVat(200);
        dairy.addVat(200);
        for (int vat : Dairies.outside(0, 1)) {
            Check.noIndex(dairy, "close(" + vat + ")", () -> dairy.close(vat));
        }
        MilkRound full = Dairies.withFarms(1);
        for (int vat = 0; vat < 4; vat++) {
            full.addVat(100);
        }
        Dairies.round(full, 3, 0);
        Check.noIndex(full, "close(4) of four vats", () -> full.close(4));
        Check.due("close(3) of four vats", 0, full.close(3));
    }

    @Sentence(of = "Promise 15", says = "Throws `UnsupportedOperationException` if it is empty")
    private static void closeOfAnEmptyVat() {
        MilkRound dairy = Dairies.withFullTanks(60);
        dairy.addVat(200);
        dairy.addVat(200);
        Check.unsupported(dairy, "close(0)", () -> dairy.close(0));
        Dairies.round(dairy, 0);
        Check.unsupported(dairy, "close(0) after a round of no visits", () -> dairy.close(0));
        dairy.beginRound();
        dairy.visit(0);
        Check.unsupported(dairy, "close(0), the milk is in the tanker", () -> dairy.close(0));
        dairy.endRound(1);
        Check.unsupported(dairy, "close(0), the milk is in the other vat", () -> dairy.close(0));
        Check.due("close(1)", 0, dairy.close(1));
        Check.unsupported(dairy, "close(1) again", () -> dairy.close(1));
        Dairies.round(dairy, 0, 0);
        Check.unsupported(dairy, "close(0) after a visit of nothing", () -> dairy.close(0));
        Check.due("batches()", 1, dairy.batches());
    }

    @Sentence(of = "Promise 15", says = "Throws `UnsupportedOperationException` if it is empty")
    private static void closeOfOneLitre() {
        MilkRound dairy = Dairies.withFullTanks(200, 101, 100);
        dairy.addVat(900);
        dairy.addVat(100);
        Dairies.round(dairy, 0, 0, 2, 1);
        Check.due("endRound(1), 1 litre", 1, Dairies.round(dairy, 1, 1));
        Check.due("close(1), not empty", 0, dairy.close(1));
        Check.due("litres(3), of 1 litre", 1, dairy.litres(3));
    }

    @Sentence(of = "Promise 15", says = "Throws `IllegalStateException` if there are 20 batches")
    private static void closeAtTwentyBatches() {
        MilkRound dairy = Dairies.withBatches(19);
        Check.due("close(0), the twentieth", 19, dairy.close(0));
        dairy.pass(1);
        Dairies.round(dairy, 0, 0);
        Check.badState(dairy, "close(0), a 21st", () -> dairy.close(0));
        Check.due("inVat(0), not closed", 5, dairy.inVat(0));
        Check.due("wayOf(20), not closed", 'v', dairy.wayOf(20));
        dairy.pass(1);
        Check.due("endRound(0) all the same", 10, Dairies.round(dairy, 0, 0));
        Dairies.round(dairy, 1, 0);
        Check.noIndex(dairy, "stateOf(20)", () -> dairy.stateOf(20));
    }
}
