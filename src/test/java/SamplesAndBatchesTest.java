/** Promises 16 to 23, sentence by sentence. */
public final class SamplesAndBatchesTest {
    public static void main(String[] args) throws Exception {
        Sentences.ofPromises(SamplesAndBatchesTest.class, 16, 23);
    }

    /** Five farms with 60, 40, 50, 30 and 20 litres, and two empty vats. */
    private static MilkRound dairy() {
        MilkRound dairy = Dairies.withFullTanks(60, 40, 50, 30, 20);
        dairy.addVat(200);
        dairy.addVat(200);
        return dairy;
    }

    // ---- promise 16

    @Sentence(of = "Promise 16", says = "Returns the number of samples.")
    private static void samplesOverRounds() {
        MilkRound dairy = dairy();
        Check.due("samples() at first", 0, dairy.samples());
        dairy.beginRound();
        Check.due("samples() of a round without visits", 0, dairy.samples());
        dairy.visit(1);
        Check.due("samples() after a visit", 1, dairy.samples());
        dairy.endRound(0);
        dairy.beginRound();
        dairy.visit(1);
        Check.due("samples() after a visit that took nothing", 1, dairy.samples());
        dairy.visit(0);
        Check.due("samples() over two rounds", 2, dairy.samples());
        dairy.endRound(0);
        dairy.close(0);
        dairy.grade(0, 'x');
        Check.due("samples() after a close and a grade", 2, dairy.samples());
    }

    @Sentence(of = "Promise 16", says = "Returns the number of samples.")
    private static void mostSamples() {
        MilkRound dairy = Dairies.withNinetySixSamples();
        dairy.beginRound();
        for (int samples = 97; samples <= 100; samples++) {
            dairy.visit(samples - 97);
            Check.due("samples()", samples, dairy.samples());
        }
        Check.badState(dairy, "visit(4)", () -> dairy.visit(4));
        Check.due("samples() after a refused visit", 100, dairy.samples());
    }

    // ---- promise 17

    @Sentence(of = "Promise 17", says = "Returns the farm of a sample.")
    private static void farmOfEachSample() {
        MilkRound dairy = dairy();
        dairy.beginRound();
        dairy.visit(2);
        dairy.visit(0);
        Check.due("farmOf(0) in the round", 2, dairy.farmOf(0));
        dairy.endRound(0);
        dairy.beginRound();
        dairy.visit(0);
        dairy.visit(4);
        dairy.endRound(0);
        Check.due("farmOf(1) in the vat", 0, dairy.farmOf(1));
        dairy.close(0);
        Check.due("farmOf(0) in a batch", 2, dairy.farmOf(0));
        Check.due("farmOf(2), after a visit of nothing", 4, dairy.farmOf(2));
    }

    @Sentence(of = "Promise 17", says = "Returns the number of the farm.")
    private static void farmsFromTheFirstToTheLast() {
        MilkRound dairy = Dairies.withFarms(6);
        dairy.beginRound();
        for (int farm = 5; farm >= 0; farm--) {
            dairy.visit(farm);
        }
        for (int farm = 0; farm < 6; farm++) {
            Check.due("farmOf(" + (5 - farm) + ")", farm, dairy.farmOf(5 - farm));
        }
    }

    @Sentence(of = "Promise 17", says = "Throws `IndexOutOfBoundsException` if there is no such sample")
    private static void farmOfNoSample() {
        MilkRound dairy = dairy();
        Check.noIndex(dairy, "farmOf(0) without samples", () -> dairy.farmOf(0));
        Dairies.collect(dairy, 3, 0);
        for (int sample : Dairies.outside(0, 2)) {
            Check.noIndex(dairy, "farmOf(" + sample + ")", () -> dairy.farmOf(sample));
        }
        MilkRound full = Dairies.withNinetySixSamples();
        Dairies.collect(full, 4, 0);
        Check.noIndex(full, "farmOf(100) of 100 samples", () -> full.farmOf(100));
        Check.due("farmOf(99) of 100 samples", 3, full.farmOf(99));
    }

    // ---- promise 18

    @Sentence(of = "Promise 18", says = "Returns the litres of a sample, that is, of its visit.")
    private static void litresOfEachVisit() {
        MilkRound dairy = Dairies.withFullTanks(60, 40, 150, 151);
        dairy.addVat(900);
        dairy.beginRound();
        for (int farm = 0; farm < 4; farm++) {
            int taken = dairy.visit(farm);
            Check.due("litres(" + farm + ")", taken, dairy.litres(farm));
        }
        dairy.endRound(0);
        Check.due("litres(2) in the vat", 150, dairy.litres(2));
        dairy.pass(30);
        Dairies.round(dairy, 0, 2);
        dairy.close(0);
        Check.due("litres(2) beside the same farm's of the next round", 150, dairy.litres(2));
        Check.due("litres(0) in a batch", 60, dairy.litres(0));
    }

    @Sentence(of = "Promise 18", says = "Returns the litres.")
    private static void fewestAndMostLitres() {
        MilkRound dairy = Dairies.withFullTanks(200, 199, 100);
        dairy.addVat(900);
        Dairies.round(dairy, 0, 0, 1, 2);
        Dairies.round(dairy, 0, 2);
        Check.due("litres(0), the most", 200, dairy.litres(0));
        Check.due("litres(2), room for 1", 1, dairy.litres(2));
        Check.due("litres(3), the rest", 99, dairy.litres(3));
    }

    @Sentence(of = "Promise 18", says = "Returns the litres.")
    private static void eachNumberOfLitres() {
        for (int litres = 10; litres <= 200; litres++) {
            MilkRound dairy = Dairies.withFullTanks(litres);
            dairy.beginRound();
            dairy.visit(0);
            Check.due("litres(0)", litres, dairy.litres(0));
        }
    }

    @Sentence(of = "Promise 18", says = "Throws `IndexOutOfBoundsException` if there is no such sample")
    private static void litresOfNoSample() {
        MilkRound dairy = dairy();
        Check.noIndex(dairy, "litres(0) without samples", () -> dairy.litres(0));
        Dairies.collect(dairy, 3, 0);
        for (int sample : Dairies.outside(0, 2)) {
            Check.noIndex(dairy, "litres(" + sample + ")", () -> dairy.litres(sample));
        }
        MilkRound full = Dairies.withNinetySixSamples();
        Dairies.collect(full, 4, 0);
        Check.noIndex(full, "litres(100) of 100 samples", () -> full.litres(100));
        Check.due("litres(99) of 100 samples", 5, full.litres(99));
    }

    // ---- promise 19

    @Sentence(of = "Promise 19", says = "Grades a sample.")
    private static void gradeOfOneSampleOnly() {
        MilkRound dairy = dairy();
        Dairies.collect(dairy, 3, 0);
        dairy.grade(1, 'b');
        Check.due("gradeOf(1)", 'b', dairy.gradeOf(1));
        Check.due("gradeOf(0)", '-', dairy.gradeOf(0));
        Check.due("gradeOf(2)", '-', dairy.gradeOf(2));
    }

    @Sentence(of = "Promise 19", says = "Grades a sample.")
    private static void gradeWhereverTheMilkIs() {
        MilkRound dairy = dairy();
        Dairies.round(dairy, 0, 0);
        dairy.close(0);
        Dairies.round(dairy, 0, 1);
        dairy.beginRound();
        dairy.visit(2);
        Check.due("grade(2, 'a') in the tanker", 2, dairy.grade(2, 'a'));
        Check.due("grade(1, 'b') in a vat", 1, dairy.grade(1, 'b'));
        Check.due("grade(0, 'c') in a batch", 0, dairy.grade(0, 'c'));
        dairy.endRound(1);
        dairy.close(1);
        dairy.close(0);
        Check.due("worth(0)", 60 * 25, dairy.worth(0));
        Check.due("worth(1)", 50 * 40, dairy.worth(1));
        Check.due("worth(2)", 40 * 34, dairy.worth(2));
        Check.due("pay(0)", 60L * 25, dairy.pay(0));
        Check.due("pay(1)", 40L * 34, dairy.pay(1));
        Check.due("pay(2)", 50L * 40, dairy.pay(2));
    }

    @Sentence(of = "Promise 19", says = "`grade`: the grade, 'a', 'b', 'c' or 'x'")
    private static void theFourGrades() {
        MilkRound dairy = dairy();
        Dairies.collect(dairy, 4, 0);
        char[] grades = {'x', 'a', 'c', 'b'};
        for (int sample = 0; sample < 4; sample++) {
            dairy.grade(sample, grades[sample]);
            Check.due("gradeOf(" + sample + ")", grades[sample], dairy.gradeOf(sample));
        }
    }

    @Sentence(of = "Promise 19", says = "Returns how many samples have no grade then.")
    private static void samplesWithoutAGrade() {
        MilkRound dairy = dairy();
        Dairies.round(dairy, 0, 0, 1);
        Check.due("grade(1, 'x') of 2", 1, dairy.grade(1, 'x'));
        dairy.close(0);
        Dairies.round(dairy, 0, 2);
        dairy.beginRound();
        dairy.visit(3);
        Check.due("grade(0, 'a') of 4, in a batch, a vat and the tanker", 2, dairy.grade(0, 'a'));
        Check.due("grade(3, 'a') of 4", 1, dairy.grade(3, 'a'));
        Check.due("grade(2, 'a') of 4, the last", 0, dairy.grade(2, 'a'));
        dairy.visit(4);
        Check.due("grade(4, 'c') of 5, the last again", 0, dairy.grade(4, 'c'));
    }

    @Sentence(of = "Promise 19", says = "Returns how many samples have no grade then.")
    private static void aHundredSamplesWithoutAGrade() {
        MilkRound dairy = Dairies.withNinetySixSamples();
        Dairies.collect(dairy, 4, 0);
        for (int sample = 99; sample >= 0; sample--) {
            Check.due("grade(" + sample + ", 'b')", sample, dairy.grade(sample, 'b'));
        }
    }

    @Sentence(of = "Promise 19", says = "Throws `IndexOutOfBoundsException` if there is no such sample")
    private static void gradeNoSample() {
        MilkRound dairy = dairy();
        Check.noIndex(dairy, "grade(0, 'a') without samples", () -> dairy.grade(0, 'a'));
        Dairies.collect(dairy, 3, 0);
        for (int sample : Dairies.outside(0, 2)) {
            Check.noIndex(dairy, "grade(" + sample + ", 'a')", () -> dairy.grade(sample, 'a'));
        }
        MilkRound full = Dairies.withNinetySixSamples();
        Dairies.collect(full, 4, 0);
        Check.noIndex(full, "grade(100, 'a') of 100 samples", () -> full.grade(100, 'a'));
        Check.due("grade(99, 'a') of 100 samples", 99, full.grade(99, 'a'));
    }

    @Sentence(of = "Promise 19", says = "Throws `IllegalArgumentException` if there is no such grade")
    private static void noSuchGrade() {
        for (int from = 0; from <= Character.MAX_VALUE; from += 256) {
            MilkRound dairy = Dairies.withFullTanks(60);
            dairy.beginRound();
            dairy.visit(0);
            for (int sign = from; sign < from + 256; sign++) {
                char grade = (char) sign;
                if (grade != 'a' && grade != 'b' && grade != 'c' && grade != 'x') {
                    Check.due("grade(0, (char) " + sign + ")", "throws.IllegalArgumentException",
                            Check.outcome(() -> dairy.grade(0, grade)));
                }
            }
            Check.due("gradeOf(0) after them", '-', dairy.gradeOf(0));
            Check.due("grade(0, 'c') after them", 0, dairy.grade(0, 'c'));
        }
    }

    @Sentence(of = "Promise 19", says = "Throws `IllegalArgumentException` if there is no such grade")
    private static void noSuchGradeChangesNothing() {
        MilkRound dairy = dairy();
        Dairies.collect(dairy, 2, 0);
        for (char grade : new char[] {'d', '-', 'A', 'X', '`', 'w', 'y', ' ', (char) 0, Character.MAX_VALUE}) {
            Check.badArgument(dairy, "grade(0, (char) " + (int) grade + ")", () -> dairy.grade(0, grade));
        }
        Check.due("grade(1, 'a') after them", 1, dairy.grade(1, 'a'));
    }

    @Sentence(of = "Promise 19", says = "Throws `IllegalStateException` if it has a grade")
    private static void gradedTwice() {
        char[] grades = {'a', 'b', 'c', 'x'};
        for (char first : grades) {
            MilkRound dairy = dairy();
            Dairies.collect(dairy, 2, 0);
            dairy.close(0);
            dairy.grade(1, first);
            for (char second : grades) {
                Check.badState(dairy, "grade(1, '" + second + "') after " + first, () -> dairy.grade(1, second));
            }
            Check.due("gradeOf(1)", first, dairy.gradeOf(1));
            Check.due("grade(0, 'a'), the other", 0, dairy.grade(0, 'a'));
        }
    }

    @Sentence(of = "Promise 19", says = "Throws `IllegalStateException` if it has a grade")
    private static void gradedTwiceOnItsWay() {
        MilkRound dairy = dairy();
        dairy.beginRound();
        dairy.visit(0);
        dairy.grade(0, 'b');
        Check.badState(dairy, "grade(0, 'a') in the tanker", () -> dairy.grade(0, 'a'));
        dairy.endRound(0);
        Check.badState(dairy, "grade(0, 'a') in a vat", () -> dairy.grade(0, 'a'));
        dairy.close(0);
        Check.badState(dairy, "grade(0, 'a') in a batch", () -> dairy.grade(0, 'a'));
        Check.due("gradeOf(0)", 'b', dairy.gradeOf(0));
    }

    // ---- promise 20

    @Sentence(of = "Promise 20", says = "Returns the grade of a sample.")
    private static void gradesOfSamples() {
        MilkRound dairy = dairy();
        Dairies.collect(dairy, 4, 0);
        Dairies.grade(dairy, 0, "cxab");
        Check.due("gradeOf(0)", 'c', dairy.gradeOf(0));
        Check.due("gradeOf(1)", 'x', dairy.gradeOf(1));
        Check.due("gradeOf(2)", 'a', dairy.gradeOf(2));
        Check.due("gradeOf(3)", 'b', dairy.gradeOf(3));
        dairy.close(0);
        Check.due("gradeOf(2) in a spoilt batch", 'a', dairy.gradeOf(2));
    }

    @Sentence(of = "Promise 20", says = "Returns the grade, or '-' if it has none.")
    private static void noGradeYet() {
        MilkRound dairy = dairy();
        dairy.beginRound();
        dairy.visit(0);
        dairy.visit(1);
        Check.due("gradeOf(0) in the tanker", '-', dairy.gradeOf(0));
        dairy.endRound(0);
        Check.due("gradeOf(0) in a vat", '-', dairy.gradeOf(0));
        dairy.close(0);
        Check.due("gradeOf(0) in a batch", '-', dairy.gradeOf(0));
        dairy.grade(1, 'x');
        Check.due("gradeOf(0) in a spoilt batch", '-', dairy.gradeOf(0));
    }

    @Sentence(of = "Promise 20", says = "Throws `IndexOutOfBoundsException` if there is no such sample")
    private static void gradeOfNoSample() {
        MilkRound dairy = dairy();
        Check.noIndex(dairy, "gradeOf(0) without samples", () -> dairy.gradeOf(0));
        Dairies.collect(dairy, 3, 0);
        for (int sample : Dairies.outside(0, 2)) {
            Check.noIndex(dairy, "gradeOf(" + sample + ")", () -> dairy.gradeOf(sample));
        }
        MilkRound full = Dairies.withNinetySixSamples();
        Dairies.collect(full, 4, 0);
        Check.noIndex(full, "gradeOf(100) of 100 samples", () -> full.gradeOf(100));
        Check.due("gradeOf(99) of 100 samples", '-', full.gradeOf(99));
    }

    // ---- promise 21

    @Sentence(of = "Promise 21", says = "Returns the number of batches.")
    private static void batchesOfVats() {
        MilkRound dairy = dairy();
        Check.due("batches() at first", 0, dairy.batches());
        Dairies.round(dairy, 1, 0);
        Check.due("batches() with an open vat", 0, dairy.batches());
        dairy.close(1);
        Check.due("batches() after a close", 1, dairy.batches());
        Check.unsupported(dairy, "close(0)", () -> dairy.close(0));
        Check.due("batches() after a refused close", 1, dairy.batches());
        Dairies.round(dairy, 0, 1);
        dairy.close(0);
        Check.due("batches() of two vats", 2, dairy.batches());
    }

    @Sentence(of = "Promise 21", says = "Returns the number of batches.")
    private static void mostBatches() {
        MilkRound dairy = Dairies.withBatches(19);
        Check.due("batches()", 19, dairy.batches());
        dairy.close(0);
        Check.due("batches(), the most", 20, dairy.batches());
        dairy.pass(1);
        Dairies.round(dairy, 1, 0);
        Check.badState(dairy, "close(1)", () -> dairy.close(1));
        Check.due("batches() after a refused close", 20, dairy.batches());
    }

    // ---- promise 22

    private static final String STATES = "Returns 'x' if it is spoilt, also if some of its samples have no grade; "
            + "'g' if it is graded otherwise; 'w' if it waits for grades.";

    @Sentence(of = "Promise 22", says = "Returns the state of a batch.")
    private static void statesOfTwoBatches() {
        MilkRound dairy = dairy();
        Dairies.round(dairy, 0, 0, 1);
        Dairies.round(dairy, 1, 2);
        dairy.close(0);
        dairy.close(1);
        dairy.grade(2, 'x');
        Check.due("stateOf(0) beside a spoilt one", 'w', dairy.stateOf(0));
        Check.due("stateOf(1)", 'x', dairy.stateOf(1));
        Dairies.grade(dairy, 0, "ac");
        Check.due("stateOf(0) with its grades", 'g', dairy.stateOf(0));
        Check.due("stateOf(1) beside it", 'x', dairy.stateOf(1));
    }

    @Sentence(of = "Promise 22", says = "Returns the state of a batch.")
    private static void stateBesideSamplesWithoutGrades() {
        MilkRound dairy = dairy();
        Dairies.round(dairy, 0, 0);
        dairy.close(0);
        Dairies.round(dairy, 0, 1);
        dairy.close(0);
        Dairies.round(dairy, 0, 2);
        dairy.beginRound();
        dairy.visit(3);
        Check.due("stateOf(0)", 'w', dairy.stateOf(0));
        dairy.grade(0, 'a');
        Check.due("stateOf(0) beside a batch, a vat and a tanker without grades", 'g', dairy.stateOf(0));
        Check.due("stateOf(1)", 'w', dairy.stateOf(1));
    }

    @Sentence(of = "Promise 22", says = STATES)
    private static void waitingUntilTheLastGrade() {
        for (int last = 0; last < 3; last++) {
            MilkRound dairy = Dairies.withBatch(60, 40, 50);
            Check.due("stateOf(0) without grades", 'w', dairy.stateOf(0));
            dairy.grade((last + 1) % 3, 'a');
            Check.due("stateOf(0) with one grade", 'w', dairy.stateOf(0));
            dairy.grade((last + 2) % 3, 'b');
            Check.due("stateOf(0) but for the grade of " + last, 'w', dairy.stateOf(0));
            dairy.grade(last, 'c');
            Check.due("stateOf(0) with all grades", 'g', dairy.stateOf(0));
        }
    }

    @Sentence(of = "Promise 22", says = STATES)
    private static void spoiltWhateverGradesAreMissing() {
        for (int spoilt = 0; spoilt < 3; spoilt++) {
            MilkRound dairy = Dairies.withBatch(60, 40, 50);
            dairy.grade(spoilt, 'x');
            Check.due("stateOf(0) with only an x", 'x', dairy.stateOf(0));
            dairy.grade((spoilt + 1) % 3, 'a');
            Check.due("stateOf(0), a grade missing", 'x', dairy.stateOf(0));
            dairy.grade((spoilt + 2) % 3, 'b');
            Check.due("stateOf(0) with all grades", 'x', dairy.stateOf(0));
        }
    }

    @Sentence(of = "Promise 22", says = STATES)
    private static void spoiltByTheLastGrade() {
        MilkRound dairy = Dairies.withBatch(60, 40, 50);
        Dairies.grade(dairy, 0, "ab");
        Check.due("stateOf(0), a grade missing", 'w', dairy.stateOf(0));
        dairy.grade(2, 'x');
        Check.due("stateOf(0), spoilt by the last grade", 'x', dairy.stateOf(0));
    }

    @Sentence(of = "Promise 22", says = STATES)
    private static void spoiltByOneLitre() {
        MilkRound dairy = Dairies.withFullTanks(200, 199, 100);
        dairy.addVat(900);
        Dairies.round(dairy, 0, 0, 1, 2);
        dairy.close(0);
        dairy.grade(2, 'x');
        Check.due("stateOf(0), 1 litre is spoilt", 'x', dairy.stateOf(0));
    }

    @Sentence(of = "Promise 22", says = STATES)
    private static void stateOfABatchGradedBefore() {
        MilkRound dairy = dairy();
        dairy.beginRound();
        dairy.visit(0);
        dairy.grade(0, 'b');
        dairy.endRound(0);
        dairy.close(0);
        Check.due("stateOf(0), graded in the tanker", 'g', dairy.stateOf(0));
        Dairies.round(dairy, 0, 1, 2);
        dairy.grade(1, 'x');
        dairy.close(0);
        Check.due("stateOf(1), spoilt in the vat", 'x', dairy.stateOf(1));
        Dairies.round(dairy, 0, 3, 4);
        dairy.grade(4, 'a');
        dairy.close(0);
        Check.due("stateOf(2), one graded in the vat", 'w', dairy.stateOf(2));
    }

    @Sentence(of = "Promise 22", says = "Throws `IndexOutOfBoundsException` if there is no such batch")
    private static void stateOfNoBatch() {
        MilkRound dairy = dairy();
        Dairies.round(dairy, 0, 0);
        Check.noIndex(dairy, "stateOf(0) without batches", () -> dairy.stateOf(0));
        dairy.close(0);
        Dairies.round(dairy, 0, 1);
        dairy.close(0);
        for (int batch : Dairies.outside(0, 1)) {
            Check.noIndex(dairy, "stateOf(" + batch + ")", () -> dairy.stateOf(batch));
        }
        MilkRound full = Dairies.withBatches(20);
        Check.noIndex(full, "stateOf(20) of 20 batches", () -> full.stateOf(20));
        Check.due("stateOf(19) of 20 batches", 'w', full.stateOf(19));
    }

    // ---- promise 23

    @Sentence(of = "Promise 23", says = "Returns the sample of a share of a batch.")
    private static void sharesOfTwoBatches() {
        MilkRound dairy = dairy();
        Dairies.round(dairy, 0, 3);
        Dairies.round(dairy, 1, 1, 0);
        Dairies.round(dairy, 0, 2);
        dairy.close(1);
        dairy.close(0);
        Check.due("share(0, 0)", 1, dairy.share(0, 0));
        Check.due("share(0, 1)", 2, dairy.share(0, 1));
        Check.due("share(1, 0)", 0, dairy.share(1, 0));
        Check.due("share(1, 1)", 3, dairy.share(1, 1));
    }

    @Sentence(of = "Promise 23", says = "`index`: the index of the share, from 0")
    private static void sharesFromTheFirstToTheLast() {
        MilkRound dairy = Dairies.withSixtyShares();
        dairy.close(0);
        for (int index = 0; index < 60; index++) {
            Check.due("share(0, " + index + ")", index, dairy.share(0, index));
        }
        Check.noElement(dairy, "share(0, 60)", () -> dairy.share(0, 60));
        Check.noElement(dairy, "share(0, -1)", () -> dairy.share(0, -1));
    }

    @Sentence(of = "Promise 23", says = "Returns the number of the sample.")
    private static void shareOfTheHundredthSample() {
        MilkRound dairy = Dairies.withNinetySixSamples();
        Dairies.collect(dairy, 4, 0);
        dairy.close(0);
        for (int index = 0; index < 4; index++) {
            Check.due("share(16, " + index + ")", 96 + index, dairy.share(16, index));
        }
        Check.due("share(0, 0)", 0, dairy.share(0, 0));
        Check.due("share(15, 5)", 95, dairy.share(15, 5));
    }

    @Sentence(of = "Promise 23", says = "Throws `IndexOutOfBoundsException` if there is no such batch")
    private static void shareOfNoBatch() {
        MilkRound dairy = dairy();
        Dairies.round(dairy, 0, 0);
        Check.noIndex(dairy, "share(0, 0) of an open vat", () -> dairy.share(0, 0));
        dairy.close(0);
        for (int batch : Dairies.outside(0, 0)) {
            Check.noIndex(dairy, "share(" + batch + ", 0)", () -> dairy.share(batch, 0));
        }
        MilkRound full = Dairies.withBatches(20);
        Check.noIndex(full, "share(20, 0) of 20 batches", () -> full.share(20, 0));
        Check.due("share(19, 0) of 20 batches", 19, full.share(19, 0));
    }

    @Sentence(of = "Promise 23", says = "Throws `NoSuchElementException` if there is no such share")
    private static void noSuchShare() {
        MilkRound dairy = dairy();
        Dairies.round(dairy, 0, 0, 1);
        Dairies.round(dairy, 1, 2);
        dairy.close(0);
        for (int index : Dairies.outside(0, 1)) {
            Check.noElement(dairy, "share(0, " + index + ")", () -> dairy.share(0, index));
        }
        dairy.close(1);
        Check.due("share(1, 0)", 2, dairy.share(1, 0));
        Check.noElement(dairy, "share(1, 1), of a batch of one", () -> dairy.share(1, 1));
    }

    @Sentence(of = "Promise 23", says = "Throws `NoSuchElementException` if there is no such share")
    private static void noShareOfAVisitOfNothing() {
        MilkRound dairy = dairy();
        Dairies.round(dairy, 0, 0, 1);
        Dairies.round(dairy, 0, 0, 2, 1);
        dairy.close(0);
        Check.due("share(0, 2)", 2, dairy.share(0, 2));
        Check.noElement(dairy, "share(0, 3), a visit of nothing", () -> dairy.share(0, 3));
    }
}
