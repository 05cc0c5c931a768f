/** Promises 24 to 31, sentence by sentence. */
public final class MoneyTest {
    public static void main(String[] args) throws Exception {
        Sentences.ofPromises(MoneyTest.class, 24, 31);
    }

    /** The batch 0 has the samples 0 to 3, of the farms 0 to 3, with 30, 50, 70 and 20 litres. */
    private static MilkRound withBatch(String grades) {
        MilkRound dairy = Dairies.withBatch(30, 50, 70, 20);
        Dairies.grade(dairy, 0, grades);
        return dairy;
    }

    /** One more batch with 4 samples of the same litres. */
    private static void nextBatch(MilkRound dairy, String grades) {
        int first = dairy.samples();
        Dairies.nextBatch(dairy, 4);
        Dairies.grade(dairy, first, grades);
    }

    // ---- promise 24

    @Sentence(of = "Promise 24", says = "Returns what a batch that is graded is worth.")
    private static void worthOfEachGrade() {
        Check.due("worth(0) of only a", 170 * 40, withBatch("aaaa").worth(0));
        Check.due("worth(0) of only b", 170 * 34, withBatch("bbbb").worth(0));
        Check.due("worth(0) of only c", 170 * 25, withBatch("cccc").worth(0));
        Check.due("worth(0) with one x", 0, withBatch("aaax").worth(0));
        Check.due("worth(0) of only x", 0, withBatch("xxxx").worth(0));
    }

    @Sentence(of = "Promise 24", says = "Returns the sum of the pay of its samples, in cents.")
    private static void worthOfThreeBatches() {
        MilkRound dairy = withBatch("abac");
        nextBatch(dairy, "xaaa");
        nextBatch(dairy, "cccb");
        Check.due("worth(0)", 30 * 40 + 50 * 34 + 70 * 40 + 20 * 25, dairy.worth(0));
        Check.due("worth(1), spoilt", 0, dairy.worth(1));
        Check.due("worth(2)", 150 * 25 + 20 * 34, dairy.worth(2));
    }

    @Sentence(of = "Promise 24", says = "Returns the sum of the pay of its samples, in cents.")
    private static void worthOfTheMostMilk() {
        MilkRound dairy = Dairies.withFullTanks(200, 200, 200, 200, 100);
        dairy.addVat(900);
        Dairies.round(dairy, 0, 0, 1);
        Dairies.round(dairy, 0, 2, 3);
        Dairies.round(dairy, 0, 4);
        dairy.close(0);
        Dairies.grade(dairy, 0, "aaaaa");
        Check.due("worth(0) of 900 litres", 36000, dairy.worth(0));
    }

    @Sentence(of = "Promise 24", says = "Throws `IndexOutOfBoundsException` if there is no such batch")
    private static void worthOfNoBatch() {
        MilkRound dairy = Dairies.withFullTanks(30, 50);
        dairy.addVat(100);
        Dairies.round(dairy, 0, 0);
        dairy.grade(0, 'a');
        Check.noIndex(dairy, "worth(0) of an open vat", () -> dairy.worth(0));
        dairy.close(0);
        Dairies.round(dairy, 0, 1);
        dairy.close(0);
        for (int batch : Dairies.outside(0, 1)) {
            Check.noIndex(dairy, "worth(" + batch + ")", () -> dairy.worth(batch));
        }
        MilkRound full = Dairies.withBatches(20);
        full.grade(19, 'a');
        Check.noIndex(full, "worth(20) of 20 batches", () -> full.worth(20));
        Check.due("worth(19) of 20 batches", 5 * 40, full.worth(19));
    }

    @Sentence(of = "Promise 24", says = "Throws `UnsupportedOperationException` if one of its samples has no grade")
    private static void worthWithoutAGrade() {
        for (int last = 0; last < 4; last++) {
            MilkRound dairy = withBatch("");
            Check.unsupported(dairy, "worth(0) without grades", () -> dairy.worth(0));
            for (int i = 1; i < 4; i++) {
                dairy.grade((last + i) % 4, 'a');
            }
            Check.unsupported(dairy, "worth(0) but for the grade of " + last, () -> dairy.worth(0));
            dairy.grade(last, 'a');
            Check.due("worth(0)", 170 * 40, dairy.worth(0));
        }
        MilkRound spoilt = withBatch("xaa");
        Check.unsupported(spoilt, "worth(0), spoilt, a grade missing", () -> spoilt.worth(0));
    }

    // ---- promise 25

    @Sentence(of = "Promise 25", says = "Returns the loss of a batch.")
    private static void lossOfEachGrade() {
        Check.due("loss(0), all others a", 150 * 40, withBatch("aaax").loss(0));
        Check.due("loss(0), all others b", 120 * 34, withBatch("bxbb").loss(0));
        Check.due("loss(0), all others c", 100 * 25, withBatch("ccxc").loss(0));
        Check.due("loss(0), a, b and c", 50 * 40 + 70 * 34 + 20 * 25, withBatch("xabc").loss(0));
        Check.due("loss(0), two spoilt", 30 * 34 + 20 * 40, withBatch("bxxa").loss(0));
    }

    @Sentence(of = "Promise 25", says = "Returns the loss in cents, 0 if it is not spoilt.")
    private static void noLoss() {
        MilkRound dairy = withBatch("abca");
        nextBatch(dairy, "axaa");
        nextBatch(dairy, "xxxx");
        Check.due("loss(0), not spoilt", 0, dairy.loss(0));
        Check.due("loss(1), spoilt", 120 * 40, dairy.loss(1));
        Check.due("loss(2), all of it spoilt", 0, dairy.loss(2));
    }

    @Sentence(of = "Promise 25", says = "Throws `IndexOutOfBoundsException` if there is no such batch")
    private static void lossOfNoBatch() {
        MilkRound dairy = Dairies.withFullTanks(30, 50);
        dairy.addVat(100);
        Dairies.round(dairy, 0, 0);
        dairy.grade(0, 'x');
        Check.noIndex(dairy, "loss(0) of an open vat", () -> dairy.loss(0));
        dairy.close(0);
        Dairies.round(dairy, 0, 1);
        dairy.close(0);
        for (int batch : Dairies.outside(0, 1)) {
            Check.noIndex(dairy, "loss(" + batch + ")", () -> dairy.loss(batch));
        }
        MilkRound full = Dairies.withBatches(20);
        full.grade(19, 'x');
        Check.noIndex(full, "loss(20) of 20 batches", () -> full.loss(20));
        Check.due("loss(19) of 20 batches", 0, full.loss(19));
    }

    @Sentence(of = "Promise 25", says = "Throws `UnsupportedOperationException` if one of its samples has no grade")
    private static void lossWithoutAGrade() {
        for (int last = 0; last < 4; last++) {
            MilkRound dairy = withBatch("");
            Check.unsupported(dairy, "loss(0) without grades", () -> dairy.loss(0));
            for (int i = 1; i < 4; i++) {
                dairy.grade((last + i) % 4, 'x');
            }
            Check.unsupported(dairy, "loss(0), spoilt, but for the grade of " + last, () -> dairy.loss(0));
            dairy.grade(last, 'c');
            Check.due("loss(0)", dairy.litres(last) * 25, dairy.loss(0));
        }
        MilkRound waiting = withBatch("abc");
        Check.unsupported(waiting, "loss(0), not spoilt, a grade missing", () -> waiting.loss(0));
    }

    // ---- promise 26

    @Sentence(of = "Promise 26", says = "Returns the pay of a farm, found batch by batch.")
    private static void payOfThreeBatches() {
        MilkRound dairy = withBatch("abcc");
        Check.due("pay(0)", 30L * 40, dairy.pay(0));
        Check.due("pay(1)", 50L * 34, dairy.pay(1));
        Check.due("pay(2)", 70L * 25, dairy.pay(2));
        nextBatch(dairy, "baaa");
        Check.due("pay(0) of two batches", 30L * 40 + 30 * 34, dairy.pay(0));
        Check.due("pay(3) of two batches", 20L * 25 + 20 * 40, dairy.pay(3));
        nextBatch(dairy, "aaxa");
        Check.due("pay(0) beside a spoilt batch", 30L * 40 + 30 * 34, dairy.pay(0));
        Check.due("pay(2) beside a spoilt batch", 70L * 25 + 70 * 40, dairy.pay(2));
    }

    @Sentence(of = "Promise 26", says = "Returns the pay of a farm, found batch by batch.")
    private static void payOfTwoSamplesInABatch() {
        MilkRound dairy = Dairies.withFullTanks(30, 50);
        dairy.addVat(900);
        Dairies.collect(dairy, 2, 0);
        dairy.pass(30);
        Dairies.collect(dairy, 2, 0);
        dairy.close(0);
        Dairies.grade(dairy, 0, "abca");
        Check.due("pay(0)", 30L * 40 + 30 * 25, dairy.pay(0));
        Check.due("pay(1)", 50L * 34 + 50 * 40, dairy.pay(1));
    }

    private static final String PAY = "Returns the sum of the pay of its samples in all batches of which all samples "
            + "have grades, in cents.";

    @Sentence(of = "Promise 26", says = PAY)
    private static void payWhenAllGradesAreThere() {
        MilkRound dairy = withBatch("");
        Check.due("pay(0) without grades", 0L, dairy.pay(0));
        Dairies.grade(dairy, 0, "aaa");
        Check.due("pay(0), the grade of another farm missing", 0L, dairy.pay(0));
        Check.due("pay(3), the grade of its own missing", 0L, dairy.pay(3));
        dairy.grade(3, 'a');
        Check.due("pay(0)", 30L * 40, dairy.pay(0));
        Check.due("pay(3)", 20L * 40, dairy.pay(3));
        dairy.addFarm(100);
        Check.due("pay(4) without samples", 0L, dairy.pay(4));
    }

    @Sentence(of = "Promise 26", says = PAY)
    private static void payOfABatchGradedBefore() {
        MilkRound dairy = Dairies.withFullTanks(30, 50);
        dairy.addVat(400);
        dairy.beginRound();
        dairy.visit(0);
        dairy.visit(1);
        Dairies.grade(dairy, 0, "ab");
        Check.due("pay(0), the milk is in the tanker", 0L, dairy.pay(0));
        dairy.endRound(0);
        Check.due("pay(0), the vat is open", 0L, dairy.pay(0));
        dairy.pass(30);
        Dairies.round(dairy, 0, 0);
        dairy.grade(2, 'c');
        dairy.close(0);
        Check.due("pay(0), graded before the close", 30L * 40 + 30 * 25, dairy.pay(0));
        Check.due("pay(1), graded before the close", 50L * 34, dairy.pay(1));
    }

    @Sentence(of = "Promise 26", says = PAY)
    private static void payOfASpoiltBatch() {
        MilkRound dairy = withBatch("aaax");
        for (int farm = 0; farm < 4; farm++) {
            Check.due("pay(" + farm + ")", 0L, dairy.pay(farm));
        }
    }

    @Sentence(of = "Promise 26", says = PAY)
    private static void payOfTwentyBatches() {
        MilkRound dairy = Dairies.withBatches(20);
        for (int sample = 0; sample < 20; sample++) {
            dairy.grade(sample, 'a');
            Check.due("pay(0) of " + (sample + 1), (sample + 1) * 200L, dairy.pay(0));
        }
        dairy.grade(20, 'a');
        Check.due("pay(0) beside an open vat", 4000L, dairy.pay(0));
    }

    @Sentence(of = "Promise 26", says = "Throws `IndexOutOfBoundsException` if there is no such farm")
    private static void payOfNoFarm() {
        MilkRound empty = new MilkRound();
        Check.noIndex(empty, "pay(0) without farms", () -> empty.pay(0));
        MilkRound dairy = withBatch("aaaa");
        for (int farm : Dairies.outside(0, 3)) {
            Check.noIndex(dairy, "pay(" + farm + ")", () -> dairy.pay(farm));
        }
        MilkRound full = Dairies.withFarms(6);
        Check.noIndex(full, "pay(6) of six farms", () -> full.pay(6));
        Check.due("pay(5) of six farms", 0L, full.pay(5));
    }

    // ---- promise 27

    @Sentence(of = "Promise 27", says = "Returns the blame of a farm, found batch by batch.")
    private static void blameOfThreeBatches() {
        MilkRound dairy = withBatch("abxc");
        int first = 30 * 40 + 50 * 34 + 20 * 25;
        Check.due("blame(2), alone", (long) first, dairy.blame(2));
        Check.due("blame(0)", 0L, dairy.blame(0));
        nextBatch(dairy, "abca");
        Check.due("blame(2) beside a batch that is not spoilt", (long) first, dairy.blame(2));
        nextBatch(dairy, "axxa");
        int third = 50 * 40;
        Check.due("blame(1)", (long) (third * 50 / 120 + 1), dairy.blame(1));
        Check.due("blame(2) of two batches", (long) (first + third * 70 / 120), dairy.blame(2));
    }

    @Sentence(of = "Promise 27", says = "Returns the blame of a farm, found batch by batch.")
    private static void blameOfTwoSamplesInABatch() {
        MilkRound dairy = Dairies.withFullTanks(30, 50);
        dairy.addVat(900);
        Dairies.collect(dairy, 2, 0);
        dairy.pass(30);
        Dairies.collect(dairy, 2, 0);
        dairy.close(0);
        Dairies.grade(dairy, 0, "xaxx");
        int lost = 50 * 40;
        Check.due("blame(0), of 30 and 30 of 110", (long) (lost * 30 / 110 + 1 + lost * 30 / 110), dairy.blame(0));
        Check.due("blame(1), of 50 of 110", (long) (lost * 50 / 110), dairy.blame(1));
    }

    private static final String BLAME = "Returns the sum of the blame on its samples in all batches of which all "
            + "samples have grades, in cents.";

    @Sentence(of = "Promise 27", says = BLAME)
    private static void blameWhenAllGradesAreThere() {
        MilkRound dairy = withBatch("xaa");
        Check.due("blame(0), the grade of another farm missing", 0L, dairy.blame(0));
        dairy.grade(3, 'x');
        Check.due("blame(0)", 120L * 40 * 30 / 50, dairy.blame(0));
        Check.due("blame(3)", 120L * 40 * 20 / 50, dairy.blame(3));
        Check.due("blame(1), not spoilt", 0L, dairy.blame(1));
        dairy.addFarm(100);
        Check.due("blame(4) without samples", 0L, dairy.blame(4));
    }

    @Sentence(of = "Promise 27", says = BLAME)
    private static void blameOfABatchGradedBefore() {
        MilkRound dairy = Dairies.withFullTanks(30, 50);
        dairy.addVat(400);
        dairy.beginRound();
        dairy.visit(0);
        dairy.visit(1);
        Dairies.grade(dairy, 0, "xa");
        Check.due("blame(0), the milk is in the tanker", 0L, dairy.blame(0));
        dairy.endRound(0);
        Check.due("blame(0), the vat is open", 0L, dairy.blame(0));
        dairy.close(0);
        Check.due("blame(0), graded before the close", 50L * 40, dairy.blame(0));
    }

    @Sentence(of = "Promise 27", says = BLAME)
    private static void noBlame() {
        MilkRound unspoilt = withBatch("abca");
        MilkRound onlySpoilt = withBatch("xxxx");
        for (int farm = 0; farm < 4; farm++) {
            Check.due("blame(" + farm + "), not spoilt", 0L, unspoilt.blame(farm));
            Check.due("blame(" + farm + "), nothing is lost", 0L, onlySpoilt.blame(farm));
        }
    }

    @Sentence(of = "Promise 27", says = BLAME)
    private static void blameForOneLitre() {
        MilkRound dairy = Dairies.withFullTanks(200, 199, 100);
        dairy.addVat(900);
        Dairies.round(dairy, 0, 0, 1, 2);
        dairy.close(0);
        Dairies.grade(dairy, 0, "aax");
        Check.due("blame(2), of 1 litre for 399", 399L * 40, dairy.blame(2));
    }

    @Sentence(of = "Promise 27", says = "Throws `IndexOutOfBoundsException` if there is no such farm")
    private static void blameOfNoFarm() {
        MilkRound empty = new MilkRound();
        Check.noIndex(empty, "blame(0) without farms", () -> empty.blame(0));
        MilkRound dairy = withBatch("aaax");
        for (int farm : Dairies.outside(0, 3)) {
            Check.noIndex(dairy, "blame(" + farm + ")", () -> dairy.blame(farm));
        }
        MilkRound full = Dairies.withFarms(6);
        Check.noIndex(full, "blame(6) of six farms", () -> full.blame(6));
        Check.due("blame(5) of six farms", 0L, full.blame(5));
    }

    // ---- promise 28

    @Sentence(of = "Promise 28", says = "Returns what a farm gets less what it is blamed for, found by going through "
            + "all samples and the ways they went.")
    private static void balanceByTheWaysOfTheSamples() {
        MilkRound dairy = Dairies.withFullTanks(30, 50);
        dairy.addVat(400);
        dairy.beginRound();
        dairy.visit(0);
        dairy.visit(1);
        Dairies.grade(dairy, 0, "xa");
        Check.due("balanceBySamples(0), the milk is in the tanker", 0L, dairy.balanceBySamples(0));
        dairy.endRound(0);
        Check.due("balanceBySamples(0), the vat is open", 0L, dairy.balanceBySamples(0));
        dairy.close(0);
        Check.due("balanceBySamples(0), in a batch", -50L * 40, dairy.balanceBySamples(0));
        Check.due("balanceBySamples(1), in a batch", 0L, dairy.balanceBySamples(1));
        Dairies.nextBatch(dairy, 2);
        Dairies.grade(dairy, 2, "ab");
        Check.due("balanceBySamples(0), of two batches", -50L * 40 + 30 * 40, dairy.balanceBySamples(0));
        Check.due("balanceBySamples(1), of two batches", 50L * 34, dairy.balanceBySamples(1));
    }

    @Sentence(of = "Promise 28", says = "Returns its pay minus its blame, in cents.")
    private static void balanceAboveAndBelowNothing() {
        MilkRound dairy = withBatch("");
        Check.due("balanceBySamples(0) without grades", 0L, dairy.balanceBySamples(0));
        Dairies.grade(dairy, 0, "aab");
        Check.due("balanceBySamples(0), a grade missing", 0L, dairy.balanceBySamples(0));
        dairy.grade(3, 'c');
        Check.due("balanceBySamples(2)", 70L * 34, dairy.balanceBySamples(2));
        nextBatch(dairy, "abxa");
        long lost = 30 * 40 + 50 * 34 + 20 * 40;
        Check.due("balanceBySamples(2), blamed", 70L * 34 - lost, dairy.balanceBySamples(2));
        Check.due("balanceBySamples(0), not blamed", 30L * 40, dairy.balanceBySamples(0));
        nextBatch(dairy, "aaxa");
        Check.due("balanceBySamples(2), blamed twice", 70L * 34 - lost - 100 * 40, dairy.balanceBySamples(2));
        for (int farm = 0; farm < 4; farm++) {
            Check.due("balanceBySamples(" + farm + ")", dairy.pay(farm) - dairy.blame(farm),
                    dairy.balanceBySamples(farm));
        }
    }

    @Sentence(of = "Promise 28", says = "Returns its pay minus its blame, in cents.")
    private static void balanceWithCentsLeft() {
        MilkRound dairy = Dairies.withBatch(20, 50, 20, 20);
        Dairies.grade(dairy, 0, "xcxx");
        Check.due("balanceBySamples(0), a cent more", -417L, dairy.balanceBySamples(0));
        Check.due("balanceBySamples(2), a cent more", -417L, dairy.balanceBySamples(2));
        Check.due("balanceBySamples(3)", -416L, dairy.balanceBySamples(3));
        Check.due("balanceBySamples(1)", 0L, dairy.balanceBySamples(1));
    }

    @Sentence(of = "Promise 28", says = "Throws `IndexOutOfBoundsException` if there is no such farm")
    private static void balanceOfNoFarm() {
        MilkRound empty = new MilkRound();
        Check.noIndex(empty, "balanceBySamples(0) without farms", () -> empty.balanceBySamples(0));
        MilkRound dairy = withBatch("aaax");
        for (int farm : Dairies.outside(0, 3)) {
            Check.noIndex(dairy, "balanceBySamples(" + farm + ")", () -> dairy.balanceBySamples(farm));
        }
        MilkRound full = Dairies.withFarms(6);
        Check.noIndex(full, "balanceBySamples(6) of six farms", () -> full.balanceBySamples(6));
        Check.due("balanceBySamples(5) of six farms", 0L, full.balanceBySamples(5));
    }

    // ---- promise 29

    @Sentence(of = "Promise 29", says = "Returns where a sample's milk is.")
    private static void wayOfMilk() {
        MilkRound dairy = Dairies.withFullTanks(30, 50, 40);
        dairy.addVat(100);
        dairy.addVat(100);
        Dairies.round(dairy, 1, 0);
        Dairies.round(dairy, 0, 1);
        dairy.beginRound();
        dairy.visit(2);
        dairy.close(0);
        Check.due("wayOf(0)", 'v', dairy.wayOf(0));
        Check.due("wayOf(1)", 'b', dairy.wayOf(1));
        Check.due("wayOf(2)", 't', dairy.wayOf(2));
        Dairies.grade(dairy, 0, "xxx");
        Check.due("wayOf(1), spoilt", 'b', dairy.wayOf(1));
        Check.due("wayOf(2), spoilt", 't', dairy.wayOf(2));
    }

    @Sentence(of = "Promise 29", says = "Returns 't' if it is in the tanker, 'v' if it is in a vat, "
            + "'b' if it is in a batch.")
    private static void theThreeWays() {
        MilkRound dairy = Dairies.withFullTanks(30, 50);
        dairy.addVat(100);
        dairy.beginRound();
        dairy.visit(0);
        Check.due("wayOf(0) in a round", 't', dairy.wayOf(0));
        dairy.endRound(0);
        Check.due("wayOf(0) after it", 'v', dairy.wayOf(0));
        dairy.beginRound();
        dairy.visit(1);
        Check.due("wayOf(0) in the next round", 'v', dairy.wayOf(0));
        Check.due("wayOf(1) in the next round", 't', dairy.wayOf(1));
        dairy.close(0);
        Check.due("wayOf(0) after the close", 'b', dairy.wayOf(0));
        dairy.endRound(0);
        Check.due("wayOf(0) beside the vat that is open again", 'b', dairy.wayOf(0));
        Check.due("wayOf(1) in the vat that is open again", 'v', dairy.wayOf(1));
    }

    @Sentence(of = "Promise 29", says = "Throws `IndexOutOfBoundsException` if there is no such sample")
    private static void wayOfNoSample() {
        MilkRound dairy = Dairies.withFullTanks(30, 50);
        dairy.addVat(100);
        Check.noIndex(dairy, "wayOf(0) without samples", () -> dairy.wayOf(0));
        Dairies.collect(dairy, 2, 0);
        for (int sample : Dairies.outside(0, 1)) {
            Check.noIndex(dairy, "wayOf(" + sample + ")", () -> dairy.wayOf(sample));
        }
        MilkRound full = Dairies.withNinetySixSamples();
        Dairies.collect(full, 4, 0);
        Check.noIndex(full, "wayOf(100) of 100 samples", () -> full.wayOf(100));
        Check.due("wayOf(99) of 100 samples", 'v', full.wayOf(99));
    }

    // ---- promise 30

    @Sentence(of = "Promise 30", says = "Returns the share of the litres of all samples that are in spoilt batches, "
            + "whether all samples of these have grades or not.")
    private static void spoiltShareWhateverGradesAreMissing() {
        MilkRound dairy = withBatch("");
        Check.due("spoiltShare() without grades", 0f, dairy.spoiltShare());
        dairy.grade(3, 'x');
        Check.due("spoiltShare(), grades missing", 1f, dairy.spoiltShare());
        Dairies.nextBatch(dairy, 4);
        Check.due("spoiltShare() beside a batch without grades", 0.5f, dairy.spoiltShare());
        Dairies.grade(dairy, 0, "aaa");
        Check.due("spoiltShare() with all grades", 0.5f, dairy.spoiltShare());
        Dairies.grade(dairy, 4, "aaaa");
        Check.due("spoiltShare() beside a good batch", 0.5f, dairy.spoiltShare());
        nextBatch(dairy, "aaax");
        Check.due("spoiltShare(), two of three", 340f / 510f, dairy.spoiltShare());
    }

    @Sentence(of = "Promise 30", says = "Returns the share of the litres of all samples that are in spoilt batches, "
            + "whether all samples of these have grades or not.")
    private static void spoiltShareOnlyOfBatches() {
        MilkRound dairy = Dairies.withFullTanks(30, 50, 70, 20);
        dairy.addVat(400);
        dairy.beginRound();
        dairy.visit(2);
        dairy.grade(0, 'x');
        Check.due("spoiltShare(), spoilt in the tanker", 0f, dairy.spoiltShare());
        dairy.visit(0);
        dairy.endRound(0);
        Check.due("spoiltShare(), spoilt in the vat", 0f, dairy.spoiltShare());
        dairy.close(0);
        Check.due("spoiltShare(), spoilt in a batch", 1f, dairy.spoiltShare());
        MilkRound good = Dairies.withBatch(30, 50);
        good.pass(30);
        Dairies.round(good, 0, 0);
        good.beginRound();
        good.visit(1);
        Dairies.grade(good, 0, "aaxx");
        Check.due("spoiltShare(), spoilt in the vat 0 and in the tanker beside the batch 0", 0f, good.spoiltShare());
    }

    private static final String SPOILT_SHARE =
            "Returns these litres divided by those of all samples, both converted to float.";

    @Sentence(of = "Promise 30", says = SPOILT_SHARE)
    private static void spoiltShareOfAllSamples() {
        MilkRound dairy = Dairies.withFullTanks(30, 50, 70, 20);
        dairy.addVat(400);
        Dairies.round(dairy, 0, 2, 0);
        dairy.close(0);
        dairy.grade(0, 'x');
        dairy.beginRound();
        dairy.visit(1);
        Check.due("spoiltShare() with milk in the tanker", 100f / 150f, dairy.spoiltShare());
        dairy.endRound(0);
        Check.due("spoiltShare() with milk in a vat", 100f / 150f, dairy.spoiltShare());
        dairy.beginRound();
        dairy.visit(3);
        Check.due("spoiltShare() with milk in both", 100f / 170f, dairy.spoiltShare());
    }

    /** 10 of 10 + n litres, where a share found in double would differ from one found in float, or in whole numbers. */
    @Sentence(of = "Promise 30", says = SPOILT_SHARE)
    private static void spoiltShareInFloat() {
        for (int other = 10; other <= 200; other++) {
            MilkRound dairy = Dairies.withFullTanks(10, other);
            dairy.addVat(300);
            Dairies.round(dairy, 0, 0);
            dairy.close(0);
            dairy.grade(0, 'x');
            Dairies.round(dairy, 0, 1);
            Check.due("spoiltShare() of 10 beside " + other, 10f / (10 + other), dairy.spoiltShare());
        }
    }

    @Sentence(of = "Promise 30", says = "Throws `ArithmeticException` if there are no samples")
    private static void spoiltShareWithoutSamples() {
        MilkRound dairy = new MilkRound();
        Check.arithmetic(dairy, "spoiltShare()", dairy::spoiltShare);
        dairy.addFarm(200);
        dairy.addFarm(200);
        dairy.addVat(100);
        dairy.addCow(1, 20);
        dairy.pass(5);
        Dairies.round(dairy, 0);
        dairy.beginRound();
        dairy.visit(0);
        Check.arithmetic(dairy, "spoiltShare() after a visit of nothing", dairy::spoiltShare);
        dairy.visit(1);
        Check.due("spoiltShare() of one sample", 0f, dairy.spoiltShare());
    }

    // ---- promise 31

    @Sentence(of = "Promise 31", says = "Returns the mean pay of a litre in all batches of which all samples have "
            + "grades.")
    private static void meanPayOfGradedBatches() {
        MilkRound dairy = withBatch("aaaa");
        Check.due("meanPay()", 40d, dairy.meanPay());
        nextBatch(dairy, "ccc");
        Check.due("meanPay() beside a batch with a grade missing", 40d, dairy.meanPay());
        dairy.grade(7, 'c');
        Check.due("meanPay() of two batches", 32.5, dairy.meanPay());
        dairy.pass(30);
        dairy.beginRound();
        dairy.visit(0);
        dairy.grade(8, 'a');
        Check.due("meanPay() beside the tanker", 32.5, dairy.meanPay());
        dairy.endRound(0);
        Check.due("meanPay() beside a vat", 32.5, dairy.meanPay());
        dairy.close(0);
        Check.due("meanPay() of three batches", (170d * 65 + 30 * 40) / 370d, dairy.meanPay());
    }

    private static final String MEAN_PAY =
            "Returns the sum of the pay in cents divided by the litres, both converted to double.";

    @Sentence(of = "Promise 31", says = MEAN_PAY)
    private static void meanPayWithSpoiltBatches() {
        MilkRound dairy = withBatch("xaaa");
        Check.due("meanPay(), all spoilt", 0d, dairy.meanPay());
        nextBatch(dairy, "abca");
        double cents = 30 * 40 + 50 * 34 + 70 * 25 + 20 * 40;
        Check.due("meanPay() with the litres of the spoilt batch", cents / 340d, dairy.meanPay());
        nextBatch(dairy, "xaa");
        Check.due("meanPay() beside a spoilt batch with a grade missing", cents / 340d, dairy.meanPay());
        dairy.grade(11, 'a');
        Check.due("meanPay() with the litres of both", cents / 510d, dairy.meanPay());
    }

    /** A mean that was found in float, or in whole numbers, would differ. */
    @Sentence(of = "Promise 31", says = MEAN_PAY)
    private static void meanPayInDouble() {
        for (int other = 10; other <= 200; other++) {
            MilkRound dairy = Dairies.withBatch(50, other);
            Dairies.grade(dairy, 0, "bc");
            double due = (50d * 34 + other * 25d) / (50d + other);
            Check.due("meanPay() of 50 with b and " + other + " with c", due, dairy.meanPay());
        }
    }

    @Sentence(of = "Promise 31", says = "Throws `ArithmeticException` if there is no such batch")
    private static void meanPayWithoutAGradedBatch() {
        MilkRound dairy = new MilkRound();
        Check.arithmetic(dairy, "meanPay() without batches", dairy::meanPay);
        dairy.addFarm(200);
        dairy.addFarm(200);
        dairy.addCow(0, 20);
        dairy.addCow(1, 20);
        dairy.addVat(200);
        dairy.pass(1);
        dairy.beginRound();
        dairy.visit(0);
        dairy.visit(1);
        dairy.grade(0, 'a');
        dairy.grade(1, 'a');
        Check.arithmetic(dairy, "meanPay(), graded in the tanker", dairy::meanPay);
        dairy.endRound(0);
        Check.arithmetic(dairy, "meanPay(), graded in a vat", dairy::meanPay);
        dairy.close(0);
        Check.due("meanPay(), graded in a batch", 40d, dairy.meanPay());
    }

    @Sentence(of = "Promise 31", says = "Throws `ArithmeticException` if there is no such batch")
    private static void meanPayBeforeTheLastGrade() {
        MilkRound dairy = withBatch("");
        Check.arithmetic(dairy, "meanPay() without grades", dairy::meanPay);
        Dairies.grade(dairy, 0, "xaa");
        Check.arithmetic(dairy, "meanPay(), spoilt, a grade missing", dairy::meanPay);
        dairy.grade(3, 'x');
        Check.due("meanPay(), all grades, all spoilt", 0d, dairy.meanPay());
    }

    @Sentence(of = "Promise 31", says = "Throws `ArithmeticException` if there is no such batch")
    private static void meanPayOfOneLitre() {
        MilkRound dairy = Dairies.withFullTanks(200, 101, 100);
        dairy.addVat(900);
        dairy.addVat(100);
        Dairies.round(dairy, 0, 0, 2, 1);
        Dairies.round(dairy, 1, 1);
        dairy.close(1);
        Check.arithmetic(dairy, "meanPay() of 1 litre without a grade", dairy::meanPay);
        dairy.grade(3, 'c');
        Check.due("meanPay() of 1 litre", 25d, dairy.meanPay());
    }
}
