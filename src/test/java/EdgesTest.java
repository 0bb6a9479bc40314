import java.io.IOException;

/**
 * The boundaries that the document names, sentence by sentence in its order: beside each stands the
 * test that fails when it is broken. No word of the terms and the promises is left without one.
 */
public final class EdgesTest {
    private static final Check check = new Check();

    public static void main(String[] args) throws IOException {
        Sentences doc = new Sentences(check);
        newObject(doc);
        rows(doc);
        tableInTheTerms(doc);
        table(doc);
        fractions(doc);
        costs(doc);
        questions(doc);
        refusedCalls(doc);
        doc.allAreNamed();
        check.end();
    }

    private static void newObject(Sentences doc) {
        NewObjectEdges edges = new NewObjectEdges(check);
        doc.in("What it is");
        doc.test("An object is used for at most 512 calls after it has been made", edges::isRightAtTheLastCall);
        doc.in("The public face");
        doc.test("NONE = -1", edges::noneIsMinusOne);
        doc.test("REFUSED = -2147483648", edges::refusedIsTheLeastInt);
        doc.test("public PrivateCounts()", edges::hasNothingOfAnother);
        doc.in("Promise 1: A new object");
        doc.test("No ROWS", edges::hasNoRows);
        doc.test("a is 1, b 2", edges::hasOneAndTwo);
        doc.test("the RANGE 0 .. 10", edges::hasTheRangeFromZeroToTen);
    }

    private static void rows(Sentences doc) {
        RowEdges edges = new RowEdges(check);
        doc.in("Terms");
        doc.test("ROWS are ints", edges::areInts);
        doc.test("at most 60", edges::areAtMostSixty);
        doc.test("they have numbers from 0 on", edges::haveNumbersFromZeroOn);
        doc.test("those behind one that goes get one less", edges::thoseBehindGetOneLess);
        doc.in("Promise 2: add");
        doc.test("A ROW more.", edges::aRowMore);
        doc.test("Answers its number", edges::addAnswersItsNumber);
        doc.test("NONE when there are 60.", edges::addAnswersNoneWhenThereAreSixty);
        doc.in("Promise 3: remove");
        doc.test("A ROW goes.", edges::aRowGoes);
        doc.test("Answers what it was.", edges::removeAnswersWhatItWas);
        doc.test("IndexOutOfBoundsException: there is no such ROW.", edges::thereIsNoSuchRow);
        doc.in("Promise 4: count");
        doc.test("How many ROWS are lower .. upper.", edges::howManyRowsAreBetween);
    }

    private static void tableInTheTerms(Sentences doc) {
        TableEdges edges = new TableEdges(check);
        doc.in("Terms");
        doc.test("THE TABLE has numbers a, b (1 <= a < b <= 10)", edges::aAndBAreOneToTen);
        doc.test("and a RANGE low .. high (low <= high", edges::lowIsNotAboveHigh);
        doc.test("-1000 .. 1000", edges::theRangeIsWithinAThousand);
        doc.test("high - low at most 14", edges::theRangeIsAtMostFourteenWide);
        doc.test("D is (a + b) b^w, w being high - low.", edges::dIsTheSumTimesAPower);
        doc.test("For a true number x of the RANGE and an outcome z of it, d being how far they are apart, "
            + "the WEIGHT is (b - a) b^(w - d) a^d, if z is neither low nor high", edges::weightBetweenTheEnds);
        doc.test("b^(w + 1 - d) a^d, if it is one of them", edges::weightAtTheEnds);
        doc.test("and D, if low is high", edges::weightWhenLowIsHigh);
        doc.test("(All WEIGHTS of an x are D together.)", edges::allWeightsAreDTogether);
        doc.test("To DRAW with a COIN c (0 .. D - 1)", edges::aCoinIsBelowD);
        doc.test("the least z of which all WEIGHTS from low to z are together above c",
            edges::theLeastOutcomeAboveTheCoin);
    }

    private static void table(Sentences doc) {
        TableEdges edges = new TableEdges(check);
        doc.in("Promise 5: table");
        doc.test("THE TABLE becomes this one.", edges::theTableBecomesThisOne);
        doc.test("Answers D.", edges::tableAnswersD);
        doc.test("IllegalArgumentException: a, b or the RANGE are not as told.",
            edges::tableRefusesWhatIsNotAsTold);
        doc.in("Promise 6: all");
        doc.test("D.", edges::allAnswersD);
        doc.in("Promise 7: weight");
        doc.test("The WEIGHT of an outcome for a true number", edges::weightOfAnOutcome);
        doc.test("0 when one of them is out of the RANGE.", edges::weightIsZeroOutOfTheRange);
        doc.in("Promise 8: upTo");
        doc.test("All WEIGHTS from low to z for a true number", edges::upToSumsFromLow);
        doc.test("0 when it is out of the RANGE", edges::upToIsZeroForANumberOutOfTheRange);
        doc.test("or z below it", edges::upToIsZeroBelowTheRange);
        doc.test("D when z is above it.", edges::upToIsDAboveTheRange);
        doc.in("Promise 9: draw");
        doc.test("What is drawn for a true number by a COIN.", edges::drawForBothEnds);
        doc.test("IllegalArgumentException: x is out of the RANGE", edges::drawRefusesANumberOutOfTheRange);
        doc.test("or the COIN not 0 .. D - 1.", edges::drawRefusesAnotherCoin);
        doc.in("Promise 10: isNear");
        doc.test("Whether no outcome's WEIGHT for x, times a, is more than that for y, times b "
            + "(both in the RANGE).", edges::isNearNextToOneAnother);
        doc.test("IllegalArgumentException: one is out of it.", edges::isNearRefusesOneOutOfTheRange);
    }

    private static void fractions(Sentences doc) {
        BudgetEdges edges = new BudgetEdges(check);
        doc.in("Terms");
        doc.test("FRACTIONS have a numerator from 0 on", edges::numeratorsBeginAtZero);
        doc.test("and a denominator from 1 on", edges::denominatorsBeginAtOne);
        doc.test("without a common divisor but 1", edges::haveNoCommonDivisor);
        doc.test("(0 is 0 by 1)", edges::zeroIsZeroByOne);
        doc.test("of any size", edges::areOfAnySize);
        doc.test("their LIMBS are their figures to the base 2^31", edges::limbsAreFiguresOfThirtyOneBits);
        doc.test("the lowest first", edges::theLowestLimbComesFirst);
        doc.test("without needless zeros", edges::limbsHaveNoNeedlessZeros);
        doc.test("(0 has none)", edges::zeroHasNoLimb);
        doc.test("THE BUDGET and what is SPENT are such, at first 0.", edges::areZeroAtFirst);
        doc.in("Promise 11: budget");
        doc.test("THE BUDGET becomes num by den", edges::theBudgetBecomesNumByDen);
        doc.test("SPENT becomes 0", edges::spentBecomesZero);
        doc.test("no QUESTIONS were asked.", edges::noQuestionsWereAsked);
        doc.test("IllegalArgumentException: num is below 0", edges::budgetRefusesANumBelowZero);
        doc.test("or den not 1 .. 1000.", edges::budgetRefusesAnotherDen);
        doc.in("Promise 12: raise");
        doc.test("THE BUDGET becomes more by num by den.", edges::theBudgetBecomesMore);
        doc.test("IllegalArgumentException: num is below 0", edges::raiseRefusesANumBelowZero);
        doc.test("or den not 1 .. 1000.", edges::raiseRefusesAnotherDen);
        doc.in("Promise 16: limb");
        doc.test("LIMB k of a numerator (part = 0) or denominator (1) of THE BUDGET (which = 0), SPENT (1), "
            + "what is left (2)", edges::limbOfEachNumber);
        doc.test("k = -1: how many there are", edges::limbTellsHowManyThereAre);
        doc.test("NONE when there is none.", edges::limbAnswersNoneWhenThereIsNone);
        doc.test("IndexOutOfBoundsException: another which", edges::limbRefusesAnotherWhich);
        doc.test("or part.", edges::limbRefusesAnotherPart);
    }

    private static void costs(Sentences doc) {
        CostEdges edges = new CostEdges(check);
        doc.in("Terms");
        doc.test("A COST p by q (p 0 .. 3000, q 1 .. 1000)", edges::pAndQHaveBounds);
        doc.test("is ENOUGH, if e to it (the sum of all (p / q)^k / k!, k from 0 on)", edges::zeroIsNeverEnough);
        doc.test("is at least b / a.", edges::isEnoughFromBOverAOn);
        doc.in("Promise 13: isEnough");
        doc.test("Whether a COST is ENOUGH.", edges::isEnoughForTheTableOfNow);
        doc.test("IllegalArgumentException: p is not 0 .. 3000", edges::isEnoughRefusesAnotherP);
        doc.test("or q not 1 .. 1000.", edges::isEnoughRefusesAnotherQ);
        doc.in("Promise 14: least");
        doc.test("The least p for which p by q is ENOUGH.", edges::leastIsEnoughAndOneLessIsNot);
        doc.test("IllegalArgumentException: q is not 1 .. 1000.", edges::leastRefusesWhatIsNotAsTold);
    }

    private static void questions(Sentences doc) {
        QuestionEdges edges = new QuestionEdges(check);
        doc.in("Terms");
        doc.test("A QUESTION counts the ROWS from lower to upper", edges::countsFromLowerToUpper);
        doc.test("at least low and at most high (a lesser count is low", edges::aLesserCountIsLow);
        doc.test("a greater one high)", edges::aGreaterCountIsHigh);
        doc.test("that is x, and z is drawn.", edges::thatIsXAndZIsDrawn);
        doc.test("It is refused when its COST is not ENOUGH", edges::isRefusedWhenItsCostIsNotEnough);
        doc.test("or SPENT and COST are together more than THE BUDGET",
            edges::isRefusedWhenTheSumIsMoreThanTheBudget);
        doc.test("else SPENT becomes this sum.", edges::elseSpentBecomesThisSum);
        doc.in("Promise 15: ask");
        doc.test("A QUESTION with a COST and a COIN. Answers what was drawn", edges::askAnswersWhatWasDrawn);
        doc.test("REFUSED.", edges::askAnswersRefused);
        doc.test("IllegalArgumentException: p, q", edges::askRefusesAnotherPOrQ);
        doc.test("or the COIN are not as told.", edges::askRefusesAnotherCoin);
        doc.in("Promise 17: told");
        doc.test("How many QUESTIONS were answered (what = 0)", edges::tellsHowManyWereAnswered);
        doc.test("refused for a COST that is not ENOUGH (1)", edges::tellsHowManyCostsWereNotEnough);
        doc.test("for THE BUDGET (2)", edges::tellsHowManyWereOverTheBudget);
        doc.test("ROWS (3)", edges::tellsHowManyRows);
        doc.test("low (4), high (5), a (6), b (7).", edges::tellsTheTable);
        doc.test("IndexOutOfBoundsException: another what.", edges::tellsNothingElse);
    }

    private static void refusedCalls(Sentences doc) {
        RefusedCalls edges = new RefusedCalls(check);
        doc.in("Terms");
        doc.test("Methods throw what their comments name", edges::throwWhatTheirCommentsName);
        doc.test("the one named first when several would do", edges::throwTheOneNamedFirst);
        doc.test("a call that throws", edges::aCallThatThrowsChangesNothing);
        doc.test("or answers NONE", edges::anAnswerNoneChangesNothing);
        doc.test("or REFUSED, changes nothing", edges::anAnswerRefusedChangesNothing);
        doc.test("(but for remove()", edges::removeOfNoneOrRefusedIsAChange);
        doc.test("ask()", edges::askThatDrawsMinusOneIsAChange);
        doc.test("and how many were refused)", edges::butHowManyWereRefused);
    }
}
