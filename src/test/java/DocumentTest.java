import java.io.IOException;
import java.nio.file.Path;

/** The document from its first line to its last: each sentence with a test that would fail if it did not hold. */
public final class DocumentTest {
    private static final Document DOC = open();

    public static void main(String[] args) {
        whatItIs();
        head();
        terms1();
        terms2();
        terms3();
        terms4();
        terms5();
        headings();
        promises1To6();
        promises7To10();
        promises11To14();
        promises15To19();
        promises20To24();
        promises25To30();
        notPromised();
        DOC.ends();
        Due.end();
    }

    private static Document open() {
        try {
            return new Document(Path.of("../shared/DOC.md"));
        } catch (IOException e) {
            throw new IllegalStateException("the document is not there", e);
        }
    }

    private static void says(String quote, Runnable test) {
        DOC.says(quote, test);
    }

    private static void passes(String quote) {
        DOC.passes(quote);
    }

    private static void whatItIs() {
        passes("# BarrowNights ## What it is");
        // What is told in short here has its tests below, with the terms.
        passes("Barrows that take lodgers: on this down the old dead have kept on their places and let, by the night, to walkers, one lies beside, "
            + "and one may have his dream; barrows of kinds with beds, what they ask, where they are along the down, walkers with their means, "
            + "where they stand, how far they go in a day, told in a text; who lodges where, who is put out, who is cold, whose dream one has; "
            + "nights, seasons that are told, the first act that can't be; how most are housed at the least price, what a plough would cost, "
            + "by how many nights one comes to a place; where all lay, by what they dreamt; how many beds there are, of which kind a barrow is, "
            + "by when it was full; odds, as each lies anywhere.");
        says("An object is used for at most 512 calls after it has been made; what later calls answer is free.", HeadHolds::lastCall);
        passes("## The public face");
        FaceHolds.block(DOC.upTo("## Terms"));
    }

    private static void head() {
        passes("## Terms");
        says("REFUSALS, in the order in which a call's line tells them:", HeadHolds::refusalsInOrder);
        // No call's line tells UNKNOWN of a place of a row: that is INDEX everywhere.
        says("UNKNOWN (there is no such BARROW, WALKER, SHEET, place of a row), OUTSIDE (another number is not as told), STATE (as told), FULL;",
            HeadHolds::refusalsAreAsTold);
        says("they change nothing", HeadHolds::refusalsChangeNothing);
        says("(but fault(), of a call that names FAULTS).", HeadHolds::refusalsMakeFaultNone);
        says("FAULTS are the machine's: 1 NULL (there is nothing),", HeadHolds::nullIsNothing);
        says("2 CAST (it is of another lane, kind),", HeadHolds::castIsOfAnotherLaneOrKind);
        says("3 INDEX (of cells from i on also where i is not 0 .. how many there are, if none of them is taken, too),", HeadHolds::indexIsBesideTheCells);
        says("4 SIZE (a length below 0).", HeadHolds::sizeIsBelowNone);
        says("Of a call the first that is come to, in the order told;", HeadHolds::firstThatIsComeTo);
        says("it answers -10 less it (LOST, where a long is answered, as for refusals) and changes nothing; fault() tells it.", HeadHolds::answersOfFaults);
        says("NONE is -9.", HeadHolds::none);
        says("Sets are told as bits (bit k for number k).", HeadHolds::sets);
        // No call answers a quotient but of shares, which are whole.
        passes("Quotients are cut.");
        says("Shares are told as upper and lower number (above 0) in least terms.", HeadHolds::shares);
    }

    private static void terms1() {
        passes("==== 1");
        says("A DOWN by a TEXT: d, then 1 to 5 BARROWS, numbered from 0 on, each: ; and a letter, a digit 1 .. 4 (BEDS), a digit 0 .. 9 (PENCE), "
            + "a digit 0 .. 9 (PLACE),", TermsHold::barrowsOfAText);
        says("then 1 to 5 WALKERS, numbered from 0 on, each: , and a digit 0 .. 9 (MEANS), a digit 0 .. 9 (PLACE), a digit 1 .. 9 (REACH).",
            TermsHold::walkersOfAText);
        says("FIRST FAULT: the place (from 0 on) of the first code with which no TEXT goes on (the ; of a sixth BARROW, of one behind a WALKER; "
            + "the , of a sixth WALKER);", TermsHold::firstFault);
        says("how many codes there are, if it just ends too soon.", TermsHold::endsTooSoon);
        says("(Codes: d 100, r 114, l 108, g 103, ; 59, \",\" 44, digits 48 .. 57.)", TermsHold::codes);
        says("Kinds: 0 ROUND (r); 1 LONG (l), a ROUND one; 2 RING (g), a LONG one.", TermsHold::kinds);
        says("A TEXT that is taken makes all anew: nobody lodges, it is NIGHT 0, nobody is COLD, no READINGS.", TermsHold::aTextMakesAllAnew);
        says("HOLDS: how many lodgers there may be: a ROUND one BEDS; a LONG one twice as many; a RING 1 more than a ROUND one.", TermsHold::holds);
    }

    private static void terms2() {
        passes("==== 2");
        says("A WALKER that does not lodge LODGES in a BARROW, if its PLACE is no farther from the WALKER's than REACH,", TermsHold::lodgesWithinReach);
        says("its PENCE are no more than MEANS,", TermsHold::lodgesByMeans);
        says("and there are fewer lodgers than it HOLDS:", TermsHold::lodgesByRoom);
        says("its PLACE is then that of the BARROW.", TermsHold::placeIsThenTheBarrows);
        says("One that lodges LEAVES (it stays at that PLACE).", TermsHold::leaves);
        says("A NIGHT: WALKER by WALKER, 0 first, those who lodge pay PENCE out of their MEANS;", TermsHold::lodgersPay);
        says("who has not so many is PUT OUT (lodges no longer, pays nothing);", TermsHold::whoHasNotSoManyIsPutOut);
        says("who does not lodge then is 1 more COLD.", TermsHold::whoDoesNotLodgeIsColder);
        says("DREAM of one who lodges: of those in the same BARROW with lesser numbers the number of the greatest;", TermsHold::dreamOfTheGreatestBelow);
        says("10 and the number of the BARROW, if there is none (the landlord's).", TermsHold::dreamOfTheLandlord);
        says("A SEASON told: a row of pairs, one behind another, from how all is now (nothing is changed):", TermsHold::aSeasonIsFromNow);
        says("a WALKER and a number below that of BARROWS: it LODGES there;", TermsHold::seasonLodges);
        says("a number 0 .. 9 and 8: so many NIGHTS;", TermsHold::seasonNights);
        says("a WALKER and 9: it LEAVES.", TermsHold::seasonLeaves);
        says("FIRST WRONG: the first act that can't be.", TermsHold::firstWrong);
    }

    private static void terms3() {
        passes("==== 3");
        says("HOUSED: to each WALKER a BARROW it could lodge in as all is now (as if nobody lodged; each from the PLACE where it is), or none,",
            TermsHold::housedWhereItCould);
        says("so that no BARROW has more than it HOLDS:", TermsHold::housedByRoom);
        says("of all such ways that by which the most are housed,", TermsHold::housedTheMost);
        says("of these that with the fewest PENCE together (of each the BARROW's),", TermsHold::housedByTheFewestPence);
        says("of several the first as a row (of BARROWS of WALKER 0, 1, ..; none is told as the number of BARROWS).", TermsHold::housedFirstAsARow);
        says("PLOUGHED: how many could be HOUSED at most, if one BARROW were not there.", TermsHold::ploughed);
        says("WAY of a WALKER to a PLACE (0 .. 9): the fewest BARROWS it must lodge in, one behind another,", TermsHold::wayOfTheFewest);
        says("none farther than REACH from the one ahead (the first: from where it is),", TermsHold::wayIsNoFartherFromTheOneAhead);
        says("so that the PLACE is no farther than REACH from the last one (from where it is, if there is none);", TermsHold::wayEndsWithinReach);
        says("NONE: there is no way.", TermsHold::thereIsNoWay);
        says("(Whatever they ask, HOLD.)", TermsHold::wayWhateverTheyAskAndHold);
        says("LAIN by told DREAMS (a row of one for each WALKER; NONE is any, also none):", TermsHold::lainNoneIsAny);
        says("to each WALKER a BARROW, or none (DREAM none: 99),", TermsHold::lainInABarrowOrNone);
        says("no BARROW having more than it HOLDS,", TermsHold::lainByRoom);
        says("so that DREAMS are as told: how many such ways there are;", TermsHold::lainAsTold);
        says("the first as a row (none is told as the number of BARROWS).", TermsHold::lainFirstAsARow);
        says("(REACH, PENCE aside.)", TermsHold::lainReachPenceAside);
    }

    private static void terms4() {
        passes("==== 4");
        says("READINGS, 8 at most, numbered by how many there are:", TermsHold::readingsAreNumbered);
        says("with so many lodgers a BARROW was full (1) or not (0): it HOLDS no more than so many.", TermsHold::fullIsHoldsNoMore);
        says("All that follows: in place of what it is alone, by which all READINGS are so:", TermsHold::inPlaceOfWhatItIsAlone);
        says("ROOMS of a BARROW: BEDS 1 .. 4;", TermsHold::rooms);
        says("KINDS of a BARROW: 0 .. 2; as sets.", TermsHold::kindsOfABarrow);
        says("ODDS of a BARROW: if each WALKER, by itself, would lie in any BARROW or in none, all alike:", TermsHold::oddsAsEachLiesAnywhere);
        says("the share by which as many as it HOLDS, or more, would lie in it.", TermsHold::oddsOfAsManyOrMore);
    }

    private static void terms5() {
        passes("==== 5");
        says("SHEETS 0 .. 3 have nothing (at first), or a row of 0 .. 60 numbers (0 at first) of a LANE: 0 bytes, 1 shorts, 2 ints;", TermsHold::sheetsAtFirst);
        says("what comes to a cell of it is cut to its LANE.", TermsHold::cutToTheLane);
        says("TELLING of BARROWS by bodies that leave their number in TRACE (an int that wraps, 0 at first, becomes 31 times it and the number) "
            + "as they begin:", TermsHold::traceOfBodies);
        says("ROUND (1): BEDS.", TermsHold::tellingOfARound);
        says("LONG (2): what ROUND's gives, and 100.", TermsHold::tellingOfALong);
        says("RING (3): what LONG's gives, and what ROUND's gives (LONG's left out).", TermsHold::tellingOfARing);
        says("HAUNTED by a lent body (4): its number;", TermsHold::hauntedByALentBody);
        says("RINGS have their own (5): 70.", TermsHold::ringsHaveTheirOwn);
    }

    private static void headings() {
        says("Ahead of the calls `down`, `ofBarrow`, `ofWalker`, `charge`, `earn` the interface says: ---- 1 the down.",
            () -> FaceHolds.behind("---- 1 the down", "down", "ofBarrow", "ofWalker", "charge", "earn"));
        says("Ahead of the calls `lodge`, `leave`, `night`, `season` the interface says: ---- 2 nights.",
            () -> FaceHolds.behind("---- 2 nights", "lodge", "leave", "night", "season"));
        says("Ahead of the calls `housed`, `ploughed`, `way`, `lain` the interface says: ---- 3 who is housed.",
            () -> FaceHolds.behind("---- 3 who is housed", "housed", "ploughed", "way", "lain"));
        says("Ahead of the calls `reading`, `back`, `rooms`, `kinds`, `odds` the interface says: ---- 4 when it was full.",
            () -> FaceHolds.behind("---- 4 when it was full", "reading", "back", "rooms", "kinds", "odds"));
        says("Ahead of the calls `sheet`, `lose`, `put`, `cell`, `copy`, `tell`, `haunt`, `as`, `trace`, `fault`, `many` the interface says: "
            + "---- 5 sheets, parts.",
            () -> FaceHolds.behind("---- 5 sheets, parts", "sheet", "lose", "put", "cell", "copy", "tell", "haunt", "as", "trace", "fault", "many"));
    }

    private static void promises1To6() {
        passes("## Promise 1: A new object");
        says("`BarrowNights()`: No DOWN (no BARROWS, WALKERS), SHEETS have nothing.", PromisesHold::newObject);
        passes("## Promise 2: down `int down(int sheet, int lane, int i, int n)`:");
        says("A DOWN by a TEXT of n cells of a SHEET from i on, taken as a row of a LANE: how many BARROWS;", PromisesHold::downByCells);
        says("-100 less the FIRST FAULT.", PromisesHold::downFirstFault);
        says("UNKNOWN; OUTSIDE: lane;", PromisesHold::downRefused);
        says("FAULTS CAST (nothing is no CAST), NULL, SIZE: n is below 0, INDEX: not all cells are there; -100 less it.", PromisesHold::downFaults);
        passes("## Promise 3: ofBarrow `int ofBarrow(int b, int what)`:");
        says("Of a BARROW: 0 kind, 1 BEDS, 2 PENCE, 3 PLACE, 4 HOLDS, 5 its lodgers, as a set.", PromisesHold::ofBarrow);
        says("UNKNOWN; OUTSIDE.", PromisesHold::ofBarrowRefused);
        passes("## Promise 4: ofWalker `int ofWalker(int w, int what)`:");
        says("Of a WALKER: 0 MEANS, 1 PLACE, 2 REACH, 3 the BARROW (NONE: it does not lodge), 4 how COLD it is, 5 DREAM (NONE: it does not lodge).",
            PromisesHold::ofWalker);
        says("UNKNOWN; OUTSIDE.", PromisesHold::ofWalkerRefused);
        passes("## Promise 5: charge `int charge(int b, int v)`:");
        says("PENCE of a BARROW become v (0 .. 9): what they were.", PromisesHold::charge);
        says("UNKNOWN; OUTSIDE.", PromisesHold::chargeRefused);
        passes("## Promise 6: earn `int earn(int w, int v)`:");
        says("MEANS of a WALKER become v (0 .. 99): what they were.", PromisesHold::earn);
        says("UNKNOWN; OUTSIDE.", PromisesHold::earnRefused);
    }

    private static void promises7To10() {
        passes("## Promise 7: lodge `int lodge(int w, int b)`:");
        says("A WALKER LODGES: how many lodge there then.", PromisesHold::lodge);
        says("UNKNOWN: WALKER, BARROW; STATE: it lodges, it can't.", PromisesHold::lodgeRefused);
        passes("## Promise 8: leave `int leave(int w)`:");
        says("A WALKER LEAVES: the BARROW.", PromisesHold::leave);
        says("UNKNOWN; STATE: it does not lodge.", PromisesHold::leaveRefused);
        passes("## Promise 9: night `int night(int n)`:");
        says("n NIGHTS (1 .. 30) go by: how many were PUT OUT.", PromisesHold::night);
        says("OUTSIDE; STATE: there is no DOWN.", PromisesHold::nightRefused);
        passes("## Promise 10: season `int season(int sheet, int lane, int i, int n, int what)`:");
        says("A SEASON of n pairs, that are cells of a SHEET from i on (2 n): who lodges behind it, as a set (what 0),", PromisesHold::seasonOfPairs);
        says("its FIRST WRONG (1; NONE),", PromisesHold::seasonFirstWrong);
        says("how many were PUT OUT in it (2),", PromisesHold::seasonPutOut);
        says("MEANS of all together then (3),", PromisesHold::seasonMeans);
        says("the BARROW of WALKER w then (10 and w; NONE: it does not lodge, there is no such one),", PromisesHold::seasonBarrow);
        says("how COLD it is then (20 and w; NONE: there is no such one);", PromisesHold::seasonCold);
        says("of one with a FIRST WRONG: -100 less that (but what 1).", PromisesHold::seasonWithAFirstWrong);
        says("UNKNOWN: SHEET; OUTSIDE: lane, n (0 .. 20), what (0 .. 3, 10 .. 14, 20 .. 24);", PromisesHold::seasonRefused);
        says("FAULTS CAST, NULL, INDEX;", PromisesHold::seasonFaults);
        says("STATE: there is no DOWN;", PromisesHold::seasonWithoutADown);
        says("pair by pair OUTSIDE: the second is none of the BARROWS, 8, 9, or it is 8, and the first is not 0 .. 9;", PromisesHold::seasonPairOutside);
        says("UNKNOWN: the first is no WALKER (of all but 8).", PromisesHold::seasonPairUnknown);
    }

    private static void promises11To14() {
        passes("## Promise 11: housed `int housed(int k)`:");
        says("HOUSED: how many (k -2), PENCE (k -1), the BARROW of WALKER k (0 .. 4; NONE: it has none, there is no such WALKER).", PromisesHold::housed);
        says("OUTSIDE; STATE: there is no DOWN.", PromisesHold::housedRefused);
        passes("## Promise 12: ploughed `int ploughed(int b)`:");
        says("PLOUGHED. UNKNOWN.", PromisesHold::ploughed);
        passes("## Promise 13: way `int way(int w, int place)`:");
        says("WAY; NONE.", PromisesHold::way);
        says("UNKNOWN; OUTSIDE.", PromisesHold::wayRefused);
        passes("## Promise 14: lain `int lain(int sheet, int lane, int i, int k)`:");
        says("LAIN by cells of a SHEET from i on, one for each WALKER: how many ways (k -1), the BARROW of WALKER k (0 .. 4) in the first "
            + "(NONE: it has none, there is no such WALKER, no way).", PromisesHold::lain);
        says("UNKNOWN: SHEET; OUTSIDE: lane, k; STATE: there is no DOWN;", PromisesHold::lainRefused);
        says("FAULTS CAST, NULL, INDEX.", PromisesHold::lainFaults);
    }

    private static void promises15To19() {
        passes("## Promise 15: reading `int reading(int b, int lodgers, int full)`:");
        says("A READING: its number.", PromisesHold::reading);
        says("UNKNOWN; OUTSIDE: lodgers (0 .. 9), full (0, 1); FULL.", PromisesHold::readingRefused);
        passes("## Promise 16: back `int back(int k)`:");
        says("The last k READINGS (0 .. as many as there are) are taken back: how many are left.", PromisesHold::back);
        says("OUTSIDE.", PromisesHold::backRefused);
        passes("## Promise 17: rooms `int rooms(int b)`:");
        says("ROOMS, as a set. UNKNOWN.", PromisesHold::rooms);
        passes("## Promise 18: kinds `int kinds(int b)`:");
        says("KINDS, as a set. UNKNOWN.", PromisesHold::kinds);
        passes("## Promise 19: odds `long odds(int b, int which)`:");
        says("ODDS (which 0 the upper, 1 the lower number).", PromisesHold::odds);
        says("LOST: UNKNOWN; OUTSIDE.", PromisesHold::oddsRefused);
    }

    private static void promises20To24() {
        passes("## Promise 20: sheet `int sheet(int k, int lane, int n)`:");
        says("A SHEET gets a new row: 1.", PromisesHold::sheet);
        says("UNKNOWN; OUTSIDE: lane, n above 60; SIZE.", PromisesHold::sheetRefused);
        passes("## Promise 21: lose `int lose(int k)`:");
        says("A SHEET has nothing: 1; 0: it had nothing. UNKNOWN.", PromisesHold::lose);
        passes("## Promise 22: put `int put(int k, int i, int v)`:");
        says("Cell i of a SHEET becomes v: 1. UNKNOWN; NULL; INDEX.", PromisesHold::put);
        passes("## Promise 23: cell `long cell(int k, int i, int lane)`:");
        says("Cell i of what a SHEET has, taken as a row of a LANE.", PromisesHold::cell);
        says("LOST: UNKNOWN, OUTSIDE: lane; FAULTS CAST (nothing is no CAST), NULL, INDEX.", PromisesHold::cellLost);
        passes("## Promise 24: copy `int copy(int k, int i, int other, int j, int n)`:");
        says("n cells of a SHEET from i on go to another one (perhaps the same) from j on, as they were: n.", PromisesHold::copy);
        says("UNKNOWN; FAULTS NULL (the first, the other), CAST (unlike LANES), INDEX: i, j, n below 0 or beyond.", PromisesHold::copyRefused);
    }

    private static void promises25To30() {
        passes("## Promise 25: tell `int tell(int b)`:");
        says("TELLING of a BARROW. UNKNOWN.", PromisesHold::tell);
        passes("## Promise 26: haunt `int haunt(int b)`:");
        says("How it is HAUNTED. UNKNOWN.", PromisesHold::haunt);
        passes("## Promise 27: as `int as(int b, int kind)`:");
        says("A BARROW, taken as one of a kind: 1. UNKNOWN; OUTSIDE; CAST: it is none (each is a ROUND one, too; a RING is a LONG one).", PromisesHold::as);
        passes("## Promise 28: trace `int trace()`:");
        says("TRACE.", PromisesHold::trace);
        passes("## Promise 29: fault `int fault()`:");
        says("The FAULT of the latest call that names one: 0: it came to none, or was refused (0 ahead of any).", PromisesHold::fault);
        passes("## Promise 30: many `int many(int what)`:");
        says("How many: 0 BARROWS, 1 WALKERS, 2 NIGHTS, 3 who lodge, 4 READINGS (0 all without a DOWN). OUTSIDE.", PromisesHold::many);
    }

    private static void notPromised() {
        passes("## Not promised");
        passes("How the state is held inside the object is free, as are the speed of each call, the text of toString and the behaviour of equals "
            + "and hashCode. Use of one object from several threads at once is not promised to be safe. Nothing is promised beyond the answers and "
            + "state changes described above, and nothing about an object after its 512th call.");
    }
}
