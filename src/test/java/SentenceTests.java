import java.io.IOException;
import java.lang.reflect.InvocationTargetException;
import java.lang.reflect.Method;
import java.math.BigInteger;
import java.nio.file.Files;
import java.nio.file.Path;
import java.util.ArrayList;
import java.util.Arrays;
import java.util.List;
import java.util.Map;
import java.util.TreeMap;
import java.util.regex.Pattern;

/**
 * The document, sentence by sentence: each is quoted and has runs of its own at the boundaries
 * that it names. A run is a text: calls with the answers that are due, on a new object behind
 * each empty line.
 *
 * <p>A call with a ! ahead of it is refused. Such a run is done a second time without these
 * calls, and the two objects must then answer alike whatever shows their state.
 *
 * <p>A call without an answer makes a state ready, and must not be refused. The runs also know
 * a few calls that the class has not (see Run.does), made of its own.
 */
public final class SentenceTests {
    private static final Path DOCUMENT = Path.of("..", "shared", "DOC.md");

    private static final List<String> QUOTED = new ArrayList<>();
    private static int checks = 0;
    private static int wrong = 0;

    // ---- what it is, and the terms

    private static void wholeObjects() {
        say("An object is used for at most 512 calls after it has been made; what later calls answer is free.", """
            rows(39); tries() = 468; later(0, 0, 0, 0) = 1; done() = 1; why() = 0; tries() = 469

            feeds('1', 120) = 120; feed('1') = OVER; read(0) = -11; place() = 120; feeds('x', 120) = 120; feed('1') = OVER; read(0) = -11
            place() = 0; feeds('1', 120) = 120; read(0) = -11; place() = 120; feeds('9', 120) = 120; read(0) = -11; feeds('1', 21) = 21
            """);
        say("shared out so that nothing is lost", """
            set(0, TOP); weight(0, 10^12); weight(1, 1); weight(2, 10^12 - 1); share(0, 1, 3)
            add(4, 1, 2); add(4, 4, 3); sum(4) = TOP

            set(0, TOP); weight(0, 7); weight(4, 11); weight(11, 13); share(0, 1, 12)
            add(13, 1, 5); add(13, 13, 12); sum(13) = TOP; sum(2) = 0; sum(11) = 0

            put(0, 1); weight(0, 1); weight(1, 1); weight(2, 1); share(0, 1, 3)
            add(4, 1, 2); add(4, 4, 3); sum(4) = 1
            """);
        say("two-sided pools whose product never falls", """
            open(0, 3, 7); put(0, 1); give(0, 0, 0, 1) = 1; pool(0) = 4 | 6 | 4; give(0, 1, 0, 1) = NONE
            put(0, 2); ask(0, 1, 0, 1) = 1; sum(1) = 6; pool(0) = 2 | 12 | 4

            open(0, 5, 5); put(0, 1); ask(0, 0, 0, 1) = 1; sum(1) = 2; pool(0) = 7 | 4 | 5
            ask(0, 1, 0, 1) = 1; sum(1) = 1; pool(0) = 6 | 5 | 5
            """);
        say("rows of acts that are done all or not at all", """
            put(0, 5); later(0, 1, 0, 0); later(0, 2, 1, 1); done() = 2; sum(1) = 10; sum(2) = 20
            later(0, 1, 1, 1); later(1, 2, 0, 2); done() = -11; sum(1) = 10; sum(2) = 20
            """);
    }

    private static void registersAndWays() {
        say("15 each hold a SUM, a whole number 0 .. 2^256 - 1 (0 at first).", """
            sum(0) = 0; sum(1) = 0; sum(2) = 0; sum(3) = 0; sum(4) = 0; sum(5) = 0; sum(6) = 0; sum(7) = 0
            sum(8) = 0; sum(9) = 0; sum(10) = 0; sum(11) = 0; sum(12) = 0; sum(13) = 0; sum(14) = 0; sum(15) = 0

            put(0, 100); put(1, 101); put(2, 102); put(3, 103); put(4, 104); put(5, 105); put(6, 106); put(7, 107)
            put(8, 108); put(9, 109); put(10, 110); put(11, 111); put(12, 112); put(13, 113); put(14, 114); put(15, 115)
            limb(0, 0) = 100; limb(1, 0) = 101; limb(2, 0) = 102; limb(3, 0) = 103; limb(4, 0) = 104; limb(5, 0) = 105
            limb(6, 0) = 106; limb(7, 0) = 107; limb(8, 0) = 108; limb(9, 0) = 109; limb(10, 0) = 110; limb(11, 0) = 111
            limb(12, 0) = 112; limb(13, 0) = 113; limb(14, 0) = 114; limb(15, 0) = 115

            set(0, TOP); set(15, TOP); sum(0) = TOP; sum(15) = TOP; sum(1) = 0; sum(14) = 0

            set(0, TOP); put(1, 1); !add(0, 0, 1) = OVER; !add(2, 1, 0) = OVER; !take(2, 3, 1) = LESS; sum(2) = 0

            !put(-1, 0) = BAD; !put(16, 0) = BAD; !put(MIN, 0) = BAD; !put(MAX, 0) = BAD
            """);
        say("WAYS of rounding a number that is not whole:", """
            ways(8, 1, 4) = 2 | 2 | 2 | 2 | 2; ways(12, 1, 4) = 3 | 3 | 3 | 3 | 3; ways(0, 1, 4) = 0 | 0 | 0 | 0 | 0

            rounds(20, 1) = 20 | 20 | 20 | 20 | 20; rounds(30, 1) = 30 | 30 | 30 | 30 | 30; rounds(7, 0) = 7 | 7 | 7 | 7 | 7

            put(0, 7); !times(1, 0, 1, 2, -1) = BAD; !times(1, 0, 1, 2, 5) = BAD; !times(1, 0, 1, 2, MIN) = BAD
            !times(1, 0, 1, 2, MAX) = BAD; !round(1, 0, 1, -1) = BAD; !round(1, 0, 1, 5) = BAD
            !round(1, 0, 1, MIN) = BAD; !round(1, 0, 1, MAX) = BAD
            """);
        say("0 DOWN,", """
            put(0, 7); times(1, 0, 1, 4, 0) = 1; sum(1) = 1; times(1, 0, 1, 8, 0) = 1; sum(1) = 0
            put(0, 19); round(1, 0, 1, 0) = 1; sum(1) = 10; put(0, 9); round(1, 0, 1, 0) = 1; sum(1) = 0

            set(0, TOP); times(1, 0, LMAX - 1, LMAX, 0) = 1; sum(1) = TOP * (2^63 - 2) / (2^63 - 1)
            """);
        say("1 UP,", """
            put(0, 5); times(1, 0, 1, 4, 1) = 1; sum(1) = 2; put(0, 1); times(1, 0, 1, LMAX, 1) = 1; sum(1) = 1
            put(0, 11); round(1, 0, 1, 1) = 1; sum(1) = 20; put(0, 1); round(1, 0, 18, 1) = 1; sum(1) = 10^18
            """);
        say("2 NEAREST (a half up),", """
            put(0, 5); times(1, 0, 1, 4, 2) = 1; sum(1) = 1; put(0, 6); times(1, 0, 1, 4, 2) = 1; sum(1) = 2
            put(0, 10); times(1, 0, 1, 4, 2) = 1; sum(1) = 3; put(0, 7); times(1, 0, 1, 4, 2) = 1; sum(1) = 2

            put(0, 14); round(1, 0, 1, 2) = 1; sum(1) = 10; put(0, 15); round(1, 0, 1, 2) = 1; sum(1) = 20
            put(0, 25); round(1, 0, 1, 2) = 1; sum(1) = 30; put(0, 16); round(1, 0, 1, 2) = 1; sum(1) = 20

            put(0, 2^62 - 1); times(1, 0, 1, LMAX, 2) = 1; sum(1) = 0; put(0, 2^62); times(1, 0, 1, LMAX, 2) = 1; sum(1) = 1
            """);
        say("3 NEAREST (a half down),", """
            put(0, 5); times(1, 0, 1, 4, 3) = 1; sum(1) = 1; put(0, 6); times(1, 0, 1, 4, 3) = 1; sum(1) = 1
            put(0, 10); times(1, 0, 1, 4, 3) = 1; sum(1) = 2; put(0, 7); times(1, 0, 1, 4, 3) = 1; sum(1) = 2

            put(0, 14); round(1, 0, 1, 3) = 1; sum(1) = 10; put(0, 15); round(1, 0, 1, 3) = 1; sum(1) = 10
            put(0, 25); round(1, 0, 1, 3) = 1; sum(1) = 20; put(0, 16); round(1, 0, 1, 3) = 1; sum(1) = 20

            put(0, 5 * 10^17); round(1, 0, 18, 3) = 1; sum(1) = 0; put(0, 5 * 10^17 + 1); round(1, 0, 18, 3) = 1; sum(1) = 10^18
            """);
        say("4 NEAREST (a half to the even one).", """
            put(0, 5); times(1, 0, 1, 4, 4) = 1; sum(1) = 1; put(0, 6); times(1, 0, 1, 4, 4) = 1; sum(1) = 2
            put(0, 10); times(1, 0, 1, 4, 4) = 1; sum(1) = 2; put(0, 7); times(1, 0, 1, 4, 4) = 1; sum(1) = 2
            put(0, 2); times(1, 0, 1, 4, 4) = 1; sum(1) = 0; put(0, 9); times(1, 0, 1, 4, 4) = 1; sum(1) = 2
            put(0, 11); times(1, 0, 1, 4, 4) = 1; sum(1) = 3

            put(0, 14); round(1, 0, 1, 4) = 1; sum(1) = 10; put(0, 15); round(1, 0, 1, 4) = 1; sum(1) = 20
            put(0, 25); round(1, 0, 1, 4) = 1; sum(1) = 20; put(0, 16); round(1, 0, 1, 4) = 1; sum(1) = 20
            put(0, 5); round(1, 0, 1, 4) = 1; sum(1) = 0; put(0, 26); round(1, 0, 1, 4) = 1; sum(1) = 30
            """);
    }

    private static void answers() {
        say("ANSWERS: BAD a number is not as told;", """
            !put(16, 1) = BAD; !put(0, -1) = BAD; !add(0, 0, 16) = BAD; !weight(12, 0) = BAD; !unit(13) = BAD
            !feed(256) = BAD; !fee(4, 0, 1) = BAD; !see(0, 3, 0) = BAD; !later(5, 0, 0, 0) = BAD; !round(0, 0, 19, 0) = BAD
            """);
        say("OVER what comes is not below 2^256;", """
            set(0, 2^255); !add(1, 0, 0) = OVER; !times(1, 0, 2, 1, 0) = OVER; !more(0, 0) = OVER

            set(0, 2^255); set(1, 2^255 - 1); add(2, 0, 1) = 1; sum(2) = TOP; times(2, 1, 2, 1, 0) = 1; sum(2) = TOP - 1

            set(0, TOP); !round(1, 0, 1, 1) = OVER; round(1, 0, 1, 0) = 1; sum(1) = TOP / 10 * 10
            """);
        say("LESS more would be taken than there is;", """
            put(0, 5); put(1, 6); !take(2, 0, 1) = LESS; take(2, 1, 1) = 1; sum(2) = 0; take(2, 1, 0) = 1; sum(2) = 1

            open(0, 10, 10); put(0, 11); !leave(0, 0, 1, 2) = LESS; put(0, 10); !ask(0, 0, 0, 1) = LESS
            leave(0, 0, 1, 2) = 1
            """);
        say("NONE as told.", """
            put(0, 5); !share(0, 1, 12) = NONE; !join(0, 0, 1, 2) = NONE; !leave(0, 1, 2, 3) = NONE; !give(0, 0, 0, 1) = NONE
            place() = NONE; open(0, 5, 5); !ask(0, 0, 1, 2) = NONE
            """);
    }

    private static void severalAnswers() {
        say("Of several the first in this order", """
            feeds('1', 120); !feed(256) = BAD; !feed(-1) = BAD; !feed('1') = OVER

            later(0, 0, 0, 0); later(0, 0, 0, 0); later(0, 0, 0, 0); later(0, 0, 0, 0); later(0, 0, 0, 0)
            later(0, 0, 0, 0); later(0, 0, 0, 0); later(0, 0, 0, 0); later(0, 0, 0, 0); later(0, 0, 0, 0)
            later(0, 0, 0, 0); later(0, 0, 0, 0); !later(5, 0, 0, 0) = BAD; !later(-1, 0, 0, 0) = BAD; !later(4, 0, 0, 0) = OVER

            set(0, TOP); !add(16, 0, 0) = BAD; !times(16, 0, 2, 1, 0) = BAD; !times(1, 0, 2, 1, 5) = BAD
            !round(16, 0, 18, 1) = BAD; !add(1, 0, 0) = OVER

            put(0, 1); !take(16, 1, 0) = BAD; !take(-1, 1, 0) = BAD; !take(2, 1, 0) = LESS

            put(0, 1); !share(0, 16, 1) = BAD; !share(16, 0, 1) = BAD; !share(0, 5, 12) = BAD; !share(0, 4, 12) = NONE

            set(0, 2^100); put(1, 5); !join(0, 0, 1, 16) = BAD; !join(4, 0, 1, 2) = BAD; !join(0, 0, 1, 2) = OVER
            !join(0, 0, 3, 2) = OVER; !join(0, 3, 0, 2) = OVER; !join(0, 3, 3, 16) = BAD; !join(0, 3, 1, 2) = NONE

            set(0, 2^100); !give(0, 2, 0, 1) = BAD; !give(0, 0, 0, 16) = BAD; !give(4, 0, 0, 1) = BAD
            !give(0, 0, 0, 1) = OVER; !give(0, 0, 2, 16) = BAD; !give(0, 0, 2, 1) = NONE

            open(0, 2^100 - 1, 1); put(0, 1); !give(0, 0, 0, 1) = OVER; !give(0, 1, 0, 16) = BAD

            open(0, 2^100 - 1, 7); put(0, 1); !join(0, 0, 1, 2) = OVER; !join(0, 1, 1, 2) = NONE

            open(0, 10, 10); put(0, 11); !leave(0, 0, 16, 1) = BAD; !leave(0, 0, 1, -1) = BAD; !leave(0, 0, 1, 2) = LESS
            !leave(0, 3, 16, 1) = BAD; !leave(0, 3, 1, 2) = NONE

            open(0, 10, 10); put(0, 10); !ask(0, 0, 0, 16) = BAD; !ask(0, -1, 0, 1) = BAD; !ask(0, 0, 0, 1) = LESS
            !ask(0, 0, 3, 16) = BAD; !ask(0, 0, 3, 1) = NONE; !ask(1, 0, 3, 1) = LESS

            open(0, 2^99, 2); put(0, 1); !ask(0, 0, 0, 16) = BAD; !ask(0, 0, 0, 1) = OVER; put(0, 2); !ask(0, 0, 0, 1) = LESS
            """);
        say("(exceptions ahead of all but BAD).", """
            set(0, TOP); !times(1, 0, LMAX, 0, 0) = throws.ArithmeticException; !times(16, 0, 1, 0, 0) = BAD
            !times(1, 16, 1, 0, 0) = BAD; !times(1, 0, -1, 0, 0) = BAD; !times(1, 0, 1, 0, 5) = BAD; !times(1, 0, 1, 0, -1) = BAD

            set(0, TOP); !divide(1, 0, 2) = throws.ArithmeticException; !divide(16, 0, 2) = BAD; !divide(1, 16, 2) = BAD
            !divide(1, -1, 2) = BAD; !divide(1, 0, 16) = BAD

            !figure(16, 5) = BAD; !figure(-1, -1) = BAD; !figure(0, 1) = throws.ArrayIndexOutOfBoundsException
            """);
    }

    private static void refusedCalls() {
        say("What is refused changes nothing.", """
            set(0, TOP); put(1, 1); put(2, 77); !put(2, -1) = BAD; !more(0, 5) = OVER; !add(2, 0, 1) = OVER
            !take(2, 1, 0) = LESS; !times(2, 0, 2, 1, 0) = OVER; !times(2, 0, 2, 0, 0) = throws.ArithmeticException
            !round(2, 0, 18, 1) = OVER; !divide(2, 0, 3) = throws.ArithmeticException; !divide(0, 0, 3) = throws.ArithmeticException

            weight(0, 5); weight(11, 7); !weight(0, 10^12 + 1) = BAD; !weight(11, -1) = BAD; !weight(12, 1) = BAD; put(0, 9)
            !share(0, 1, 0) = BAD; !share(0, 1, 13) = BAD; !share(0, 16, 1) = BAD

            weight(11, 7); put(0, 9); put(1, 8); !share(0, 1, 11) = NONE; !weight(11, 10^12 + 1) = BAD; !weight(0, -1) = BAD

            unit(5); put(0, 1234567); print(0); !unit(-1) = BAD; !unit(13) = BAD; !print(16) = BAD; !print(-1) = BAD
            !out(99) = throws.ArrayIndexOutOfBoundsException; !figure(0, 7) = throws.ArrayIndexOutOfBoundsException

            tape('x'); read(0) = -11; tape('12'); !feed(256) = BAD; !feed(-1) = BAD; !read(16) = BAD; !read(-1) = BAD

            fee(0, 1, 3); open(0, 1000, 3000); !fee(0, 3, 3) = BAD; !fee(0, -1, 3) = BAD; !fee(0, 0, 10^6 + 1) = BAD
            set(0, 2^100); !join(0, 0, 12, 1) = OVER; !join(0, 12, 0, 1) = OVER; !join(0, 12, 2, 1) = NONE
            !give(0, 0, 0, 1) = OVER; !give(0, 1, 2, 1) = NONE; !leave(0, 0, 1, 3) = LESS; !leave(0, 2, 1, 3) = NONE

            fee(1, 1, 2); open(1, 2^99, 3); put(0, 2); put(1, 3); put(2, 5); !ask(1, 0, 0, 2) = OVER; !ask(1, 0, 1, 2) = LESS
            !ask(1, 0, 5, 2) = NONE; !ask(1, 2, 0, 2) = BAD; !see(1, 3, 2) = BAD; !see(1, -1, 2) = BAD; !see(4, 0, 2) = BAD

            later(0, 1, 2, 3); later(4, 5, 6, 7); !later(5, 9, 9, 9) = BAD; !later(-1, 9, 9, 9) = BAD

            put(0, 1); later(1, 1, 2, 0); done() = -10; tape('9'); !put(16, 1) = BAD; !take(1, 2, 0) = LESS
            !divide(1, 0, 2) = throws.ArithmeticException; why() = LESS; tries() = 1
            """);
    }

    private static void shares() {
        say("SHARES of a SUM by WEIGHTS (12; each 0 .. 10^12, 0 at first)", """
            put(0, 12); !share(0, 1, 1) = NONE; !share(0, 1, 12) = NONE

            weight(0, 10^12) = 1; weight(11, 10^12) = 1; !weight(0, 10^12 + 1) = BAD; !weight(0, -1) = BAD; !weight(12, 1) = BAD
            !weight(-1, 1) = BAD; put(0, 7); share(0, 1, 12) = 1; sum(1) = 4; sum(2) = 0; sum(11) = 0; sum(12) = 3

            weight(0, 10^12); weight(1, 10^12); weight(2, 10^12); weight(3, 10^12); weight(4, 10^12); weight(5, 10^12)
            weight(6, 10^12); weight(7, 10^12); weight(8, 10^12); weight(9, 10^12); weight(10, 10^12); weight(11, 10^12)
            set(0, TOP); share(0, 1, 12) = 3; sum(1) = TOP / 12 + 1; sum(3) = TOP / 12 + 1; sum(4) = TOP / 12; sum(12) = TOP / 12

            weight(5, 9); weight(5, 0) = 1; put(0, 3); !share(0, 1, 12) = NONE
            """);
        say("of which the first n count,", """
            weight(0, 1); weight(1, 1); weight(2, 8); put(0, 10); put(5, 99)
            share(0, 3, 2) = 0; sum(3) = 5; sum(4) = 5; sum(5) = 99; share(0, 3, 3) = 0; sum(3) = 1; sum(4) = 1; sum(5) = 8

            weight(0, 1); weight(1, 1); put(0, 9); put(2, 99); share(0, 1, 1) = 0; sum(1) = 9; sum(2) = 99
            share(0, 1, 12) = 1; sum(1) = 5; sum(2) = 4; sum(12) = 0
            """);
        say("W being all of these together (NONE: it is 0):", """
            weight(1, 5); put(0, 7); !share(0, 2, 1) = NONE; share(0, 2, 2) = 0; sum(2) = 0; sum(3) = 7

            weight(0, 1); put(0, 7); share(0, 2, 1) = 0; sum(2) = 7; weight(0, 0); !share(0, 3, 1) = NONE

            weight(0, 10^12); weight(1, 10^12 - 1); put(0, 2 * 10^12 - 1); share(0, 1, 2) = 0; sum(1) = 10^12; sum(2) = 10^12 - 1
            """);
        say("each has the SUM times its WEIGHT by W, DOWN;", """
            weight(0, 1); weight(1, 2); weight(2, 4); put(0, 14); share(0, 1, 3) = 0; sum(1) = 2; sum(2) = 4; sum(3) = 8
            put(0, 15); share(0, 1, 3) = 1; sum(1) = 2; sum(2) = 4; sum(3) = 9

            weight(0, 1); weight(1, 10^12); put(0, 10^12); share(0, 1, 2) = 1; sum(1) = 1; sum(2) = 10^12 - 1

            weight(0, 10^12); weight(1, 0); set(0, TOP); share(0, 1, 2) = 0; sum(1) = TOP; sum(2) = 0

            weight(0, 1); weight(1, 1); put(0, 0); put(1, 5); put(2, 5); share(0, 1, 2) = 0; sum(1) = 0; sum(2) = 0
            """);
        say("as many units as are left over then go one each to those that lost the greatest part,", """
            weight(0, 1); weight(1, 2); weight(2, 4); put(0, 10); share(0, 1, 3) = 2; sum(1) = 1; sum(2) = 3; sum(3) = 6

            weight(1, 1); weight(2, 1); weight(3, 1); put(0, 2); share(0, 1, 4) = 2; sum(1) = 0; sum(2) = 1; sum(3) = 1; sum(4) = 0

            weight(0, 1); weight(1, 1); weight(2, 2); put(0, 7); share(0, 1, 3) = 2; sum(1) = 2; sum(2) = 2; sum(3) = 3

            weight(0, 2); weight(1, 1); weight(2, 1); put(0, 3); share(0, 1, 3) = 2; sum(1) = 1; sum(2) = 1; sum(3) = 1

            weight(0, 5 * 10^11); weight(1, 5 * 10^11 - 1); weight(2, 1); put(0, 2); share(0, 1, 3) = 1
            sum(1) = 1; sum(2) = 1; sum(3) = 0
            """);
        say("of alike ones the lesser first.", """
            weight(0, 1); weight(1, 1); put(0, 1); share(0, 1, 2) = 1; sum(1) = 1; sum(2) = 0

            weight(0, 1); weight(1, 3); weight(2, 1); weight(3, 3); put(0, 1); share(0, 1, 4) = 1
            sum(1) = 0; sum(2) = 1; sum(3) = 0; sum(4) = 0

            weight(0, 1); weight(1, 1); weight(2, 1); weight(3, 1); weight(4, 1); weight(5, 1); weight(6, 1); weight(7, 1)
            weight(8, 1); weight(9, 1); weight(10, 1); weight(11, 1); put(0, 11); share(0, 4, 12) = 11
            sum(4) = 1; sum(13) = 1; sum(14) = 1; sum(15) = 0
            put(0, 1); share(0, 4, 12) = 1; sum(4) = 1; sum(5) = 0; sum(15) = 0
            """);
    }

    private static void textsAreWritten() {
        say("TEXTS of a SUM, with UNIT (0 .. 12; 2 at first) digits behind the point:", """
            put(0, 5); text(0) = '0.05'; unit(12) = 2; text(0) = '0.000000000005'; unit(0) = 12; text(0) = '5'
            !unit(13) = BAD; !unit(-1) = BAD; !unit(MIN) = BAD; !unit(MAX) = BAD; text(0) = '5'
            """);
        say("figures, with a , between each three of them ahead of the point (counted from it), one at least;", """
            unit(0); text(0) = '0'; put(0, 9); text(0) = '9'; put(0, 99); text(0) = '99'; put(0, 999); text(0) = '999'
            put(0, 1000); text(0) = '1,000'; put(0, 99999); text(0) = '99,999'; put(0, 999999); text(0) = '999,999'
            put(0, 1000000); text(0) = '1,000,000'; put(0, 1234567); text(0) = '1,234,567'

            put(0, 99999); text(0) = '999.99'; put(0, 100000); text(0) = '1,000.00'; put(0, 12345678); text(0) = '123,456.78'
            put(0, 100000000); text(0) = '1,000,000.00'; put(0, 99); text(0) = '0.99'; put(0, 100); text(0) = '1.00'

            unit(1); put(0, 9999); text(0) = '999.9'; put(0, 10000); text(0) = '1,000.0'; unit(3); text(0) = '10.000'

            unit(0); set(0, TOP); print(0) = 103; text(0) = '115,792,089,237,316,195,423,570,985,008,687,907,853,269,984,665,640,564,039,457,584,007,913,129,639,935'

            set(0, TOP); print(0) = 104; text(0) = '1,157,920,892,373,161,954,235,709,850,086,879,078,532,699,846,656,405,640,394,575,840,079,131,296,399.35'

            unit(12); set(0, TOP); print(0) = 100; text(0) = '115,792,089,237,316,195,423,570,985,008,687,907,853,269,984,665,640,564,039,457,584,007.913129639935'
            """);
        say("then, if UNIT is above 0, a . and just UNIT figures.", """
            unit(0); put(0, 10); text(0) = '10'; unit(1); text(0) = '1.0'; unit(2); text(0) = '0.10'; unit(3); text(0) = '0.010'

            unit(12); text(0) = '0.000000000000'; put(0, 10^12 - 1); text(0) = '0.999999999999'
            put(0, 10^12); text(0) = '1.000000000000'; put(0, 10^12 + 1); text(0) = '1.000000000001'
            """);
    }

    private static void textsAreRead() {
        say("Such a text is read: ahead of the point 0 alone, or a figure that is no 0 and any others;", """
            tape('0.00'); read(0) = 1; sum(0) = 0; tape('0.09'); read(0) = 1; sum(0) = 9; tape('1.00'); read(0) = 1; sum(0) = 100
            tape('9000.00'); read(0) = 1; sum(0) = 900000; tape('10.01'); read(0) = 1; sum(0) = 1001

            tape('00.00'); read(0) = -11; place() = 1; tape('01.00'); read(0) = -11; place() = 1; tape('0,000.00'); read(0) = -11
            place() = 1; tape('.00'); read(0) = -11; place() = 0; tape('0'); read(0) = -11; place() = 1

            unit(0); put(0, 7); tape('0'); read(0) = 1; sum(0) = 0; tape('00'); read(0) = -11; place() = 1; tape('09'); read(0) = -11
            place() = 1; tape('90'); read(0) = 1; sum(0) = 90; tape('0.'); read(0) = -11; place() = 1

            unit(1); tape('0.1'); read(0) = 1; sum(0) = 1; tape('10.0'); read(0) = 1; sum(0) = 100; tape('00.0'); read(0) = -11; place() = 1

            tape('/.00'); read(0) = -11; place() = 0; tape(':.00'); read(0) = -11; place() = 0; tape('9.00'); read(0) = 1; sum(0) = 900
            """);
        say("either without any , or with all:", """
            tape('1234.56'); read(0) = 1; sum(0) = 123456; tape('1,234.56'); read(0) = 1; sum(0) = 123456
            tape('1,234,567.00'); read(0) = 1; sum(0) = 123456700; tape('1234567.00'); read(0) = 1; sum(0) = 123456700

            tape('1,234567.00'); read(0) = -11; place() = 5; tape('1234,567.00'); read(0) = -11; place() = 4
            tape('1234567,890.00'); read(0) = -11; place() = 7; tape('123,456789.00'); read(0) = -11; place() = 7
            """);
        say("then one, two or three figures stand ahead of the first , and just three behind each.", """
            tape('1,000.00'); read(0) = 1; sum(0) = 100000; tape('12,000.00'); read(0) = 1; sum(0) = 1200000
            tape('123,000.00'); read(0) = 1; sum(0) = 12300000; tape('123,000,000.00'); read(0) = 1; sum(0) = 12300000000

            tape(',000.00'); read(0) = -11; place() = 0; tape('1234,000.00'); read(0) = -11; place() = 4
            tape('1,.00'); read(0) = -11; place() = 2; tape('1,0.00'); read(0) = -11; place() = 3; tape('1,00.00'); read(0) = -11
            place() = 4; tape('1,0000.00'); read(0) = -11; place() = 5; tape('1,,000.00'); read(0) = -11; place() = 2
            tape('1,00,000.00'); read(0) = -11; place() = 4; tape('1,000,00.00'); read(0) = -11; place() = 8

            unit(0); tape('1,'); read(0) = -11; place() = 2; tape('1,0'); read(0) = -11; place() = 3; tape('1,00'); read(0) = -11
            place() = 4; tape('1,000'); read(0) = 1; sum(0) = 1000; tape('1,000,'); read(0) = -11; place() = 6
            """);
        say("THE TAPE has 120 bytes at most,", """
            feeds('1', 119) = 119; feed('1') = 120; !feed('1') = OVER; !feed('x') = OVER; unit(0); read(0) = -12; place() = 120

            unit(0); feeds('1', 119) = 119; feed('x') = 120; !feed('x') = OVER; read(0) = -11; place() = 119
            """);
        say("reading uses it up.", """
            tape('1.00') = 4; read(0) = 1; feed('1') = 1; read(0) = -11; feed('1') = 1

            unit(0); feeds('9', 78) = 78; read(0) = -12; feed('9') = 1; read(0) = 1; sum(0) = 9

            feeds('1', 120) = 120; read(0) = -11; feed('1') = 1

            tape('1.00'); !read(16) = BAD; read(0) = 1; read(0) = -11; place() = 0
            """);
        say("FAULTS: 1 the first byte, from the left, that can't stand there behind those before it, at its place", """
            tape('x'); read(0) = -11; place() = 0; tape('1x'); read(0) = -11; place() = 1; tape('1.x'); read(0) = -11; place() = 2
            tape('1.0x'); read(0) = -11; place() = 3; tape('1.00x'); read(0) = -11; place() = 4; tape('xx'); read(0) = -11; place() = 0
            tape('1.000'); read(0) = -11; place() = 4; tape('1..00'); read(0) = -11; place() = 2; tape('1.00.'); read(0) = -11; place() = 4
            tape('1.0,0'); read(0) = -11; place() = 3; tape('-1.00'); read(0) = -11; place() = 0; tape(' 1.00'); read(0) = -11; place() = 0

            unit(0); tape('1.'); read(0) = -11; place() = 1; tape('1.00'); read(0) = -11; place() = 1; tape('1,000.'); read(0) = -11
            place() = 5; feed('1'); feed(0); read(0) = -11; place() = 1; feed(255); read(0) = -11; place() = 0

            unit(12); tape('1.0000000000000'); read(0) = -11; place() = 14; tape('1.000000000000'); read(0) = 1; sum(0) = 10^12

            unit(0); feeds('9', 100); feed('x'); read(0) = -11; place() = 100
            """);
        say("(at the length, if it ends too early);", """
            read(0) = -11; place() = 0; tape('1'); read(0) = -11; place() = 1; tape('1.'); read(0) = -11; place() = 2
            tape('1.0'); read(0) = -11; place() = 3; tape('1,'); read(0) = -11; place() = 2; tape('1,00'); read(0) = -11; place() = 4
            tape('1,000'); read(0) = -11; place() = 5; tape('0'); read(0) = -11; place() = 1; tape('1.00'); read(0) = 1; place() = NONE

            unit(0); read(0) = -11; place() = 0; tape('1,00'); read(0) = -11; place() = 4; tape('1'); read(0) = 1

            unit(12); tape('1.00000000000'); read(0) = -11; place() = 13
            """);
        say("2 the SUM is not below 2^256 (at the length).", """
            unit(0); put(0, 5)
            tape('115792089237316195423570985008687907853269984665640564039457584007913129639936'); !read(16) = BAD; read(0) = -12
            place() = 78; sum(0) = 5

            unit(0); tape('115792089237316195423570985008687907853269984665640564039457584007913129639935'); read(0) = 1; sum(0) = TOP
            place() = NONE

            put(0, 5)
            tape('1,157,920,892,373,161,954,235,709,850,086,879,078,532,699,846,656,405,640,394,575,840,079,131,296,399.36')
            read(0) = -12; place() = 104; sum(0) = 5

            tape('1,157,920,892,373,161,954,235,709,850,086,879,078,532,699,846,656,405,640,394,575,840,079,131,296,399.35')
            read(0) = 1; sum(0) = TOP; place() = NONE

            unit(0); feeds('9', 120); read(0) = -12; place() = 120; feed('1'); feeds('0', 78); read(0) = -12; place() = 79

            unit(0); tape(2^257); read(0) = -12; place() = 78; tape(2^264); read(0) = -12; place() = 80; tape(2^288); read(0) = -12; place() = 87

            unit(0); tape(2^320 + 5); read(0) = -12; place() = 97; tape(2^384 + 5); read(0) = -12; place() = 116
            tape(2^352); read(0) = -12; place() = 106; sum(0) = 0
            """);
    }

    private static void pools() {
        say("POOLS 0 .. 3 have two sides, each a SUM below 2^100,", """
            open(0, 1, 2); open(1, 3, 4); open(2, 5, 6); open(3, 7, 8)
            pool(0) = 1 | 2 | 1; pool(1) = 3 | 4 | 3; pool(2) = 5 | 6 | 5; pool(3) = 7 | 8 | 7

            open(0, 2^100 - 1, 1); pool(0) = 2^100 - 1 | 1 | root(2^100 - 1); open(3, 1, 2^100 - 1); see(3, 1, 0); sum(0) = 2^100 - 1

            set(0, 2^100); put(1, 1); !join(0, 0, 1, 2) = OVER; !join(0, 1, 0, 2) = OVER; !join(3, 0, 1, 2) = OVER

            put(0, 9); !fee(-1, 0, 1) = BAD; !fee(4, 0, 1) = BAD; !join(-1, 0, 0, 1) = BAD; !join(4, 0, 0, 1) = BAD
            !leave(-1, 0, 1, 2) = BAD; !leave(4, 0, 1, 2) = BAD; !give(-1, 0, 0, 1) = BAD; !give(4, 0, 0, 1) = BAD
            !ask(-1, 0, 0, 1) = BAD; !ask(4, 0, 0, 1) = BAD; !see(-1, 0, 1) = BAD; !see(4, 0, 1) = BAD
            """);
        say("a FEE p / q (0 <= p < q <= 10^6),", """
            fee(0, 0, 1) = 0; fee(0, 0, 10^6) = 0; fee(0, 10^6 - 1, 10^6) = 0; fee(0, 1, 2) = 0; !fee(0, -1, 1) = BAD
            !fee(0, 0, 0) = BAD; !fee(0, 1, 1) = BAD; !fee(0, 2, 1) = BAD; !fee(0, 10^6, 10^6) = BAD; !fee(0, 0, 10^6 + 1) = BAD
            !fee(0, 10^6, 10^6 + 1) = BAD; !fee(0, -2, -1) = BAD; !fee(0, MIN, MAX) = BAD; !fee(0, MIN, 1) = BAD; !fee(0, 0, MIN) = BAD
            """);
        say("and PARTS (a SUM); one is OPEN when its PARTS are not 0.", """
            fee(0, 0, 1) = 0; open(0, 1, 1); fee(0, 0, 1) = 1; fee(0, 0, 1) = 0; open(0, 9, 4); see(0, 2, 1); sum(1) = 6
            leave(0, 1, 2, 3) = 1; fee(0, 0, 1) = 0

            open(0, 9, 4); put(0, 5); leave(0, 0, 1, 2) = 1; pool(0) = 2 | 1 | 1; fee(0, 0, 1) = 1

            put(0, 5); !give(1, 0, 0, 1) = NONE; open(1, 100, 100); give(1, 0, 0, 1) = 1; fee(1, 0, 1) = 1; !give(1, 0, 0, 1) = NONE
            """);
        say("(At first FEE 0 / 1.)", """
            put(0, 1000); join(0, 0, 0, 2); join(1, 0, 0, 2); join(2, 0, 0, 2); join(3, 0, 0, 2)
            give(0, 0, 0, 1); sum(1) = 500; give(1, 0, 0, 1); sum(1) = 500; give(2, 1, 0, 1); sum(1) = 500; give(3, 1, 0, 1); sum(1) = 500
            """);
        say("Of what is given q - p of q counts.", """
            fee(0, 1, 2); open(0, 1000, 1000); put(0, 1000); give(0, 0, 0, 1) = 1; sum(1) = 333; pool(0) = 2000 | 667 | 1000

            fee(0, 10^6 - 1, 10^6); open(0, 1000, 1000); put(0, 1000); !give(0, 0, 0, 1) = NONE; put(0, 10^9); give(0, 0, 0, 1) = 1
            sum(1) = 500; pool(0) = 10^9 + 1000 | 500 | 1000

            fee(0, 1, 10^6); open(0, 10^6, 10^6); put(0, 10^6); give(0, 1, 0, 1) = 1; sum(1) = 10^6 * 999999 / 1999999

            fee(0, 500000, 10^6); open(0, 1000, 1000); put(0, 1000); give(0, 1, 0, 1) = 1; sum(1) = 333
            """);
    }

    private static void poolsAreUsed() {
        say("GIVEN d on a side x, the other one being y: y d (q - p) by (x q + d (q - p)), DOWN, is GOT; x becomes x + d, y what is left of it.", """
            open(0, 10, 30); put(0, 5); give(0, 0, 0, 1) = 1; sum(1) = 10; pool(0) = 15 | 20 | 17

            open(0, 10, 29); put(0, 5); give(0, 0, 0, 1) = 1; sum(1) = 9; pool(0) = 15 | 20 | 17

            open(0, 10, 31); put(0, 5); give(0, 0, 0, 1) = 1; sum(1) = 10; pool(0) = 15 | 21 | 17

            open(0, 30, 10); put(0, 5); give(0, 1, 0, 1) = 1; sum(1) = 10; pool(0) = 20 | 15 | 17

            fee(0, 3, 1000); open(0, 10^6, 4 * 10^6); put(0, 10000); give(0, 0, 0, 0) = 1; sum(0) = 39486
            pool(0) = 1010000 | 3960514 | 2000000

            fee(2, 1, 10^6); open(2, 2^99, 2^100 - 1); set(0, 2^99 - 1); give(2, 0, 0, 1) = 1
            sum(1) = (2^100 - 1) * (2^99 - 1) * 999999 / (2^99 * 10^6 + (2^99 - 1) * 999999); see(2, 0, 2); sum(2) = 2^100 - 1
            see(2, 1, 2); add(2, 2, 1); sum(2) = 2^100 - 1

            open(0, 1, 2); put(0, 1); give(0, 0, 0, 1) = 1; sum(1) = 1; pool(0) = 2 | 1 | 1; set(0, 2^99); !give(0, 0, 0, 1) = NONE
            """);
        say("ASKED for e of y (below y): what is to be given is x e q by ((y - e) (q - p)), UP; then likewise.", """
            open(0, 10, 30); put(0, 10); ask(0, 0, 0, 1) = 1; sum(1) = 5; pool(0) = 15 | 20 | 17

            open(0, 10, 30); put(0, 11); ask(0, 0, 0, 1) = 1; sum(1) = 6; pool(0) = 16 | 19 | 17

            open(0, 10, 30); put(0, 1); ask(0, 0, 0, 1) = 1; sum(1) = 1; pool(0) = 11 | 29 | 17

            open(0, 10, 30); put(0, 3); ask(0, 0, 0, 1) = 1; sum(1) = 2; pool(0) = 12 | 27 | 17

            open(0, 30, 10); put(0, 10); ask(0, 1, 0, 0) = 1; sum(0) = 5; pool(0) = 20 | 15 | 17

            open(0, 10, 30); put(0, 29); ask(0, 0, 0, 1) = 1; sum(1) = 290; pool(0) = 300 | 1 | 17

            open(0, 10, 30); put(0, 30); !ask(0, 0, 0, 1) = LESS; put(0, 31); !ask(0, 0, 0, 1) = LESS

            fee(0, 1, 2); open(0, 10, 30); put(0, 10); ask(0, 0, 0, 1) = 1; sum(1) = 10; pool(0) = 20 | 20 | 17

            fee(0, 3, 1000); open(0, 10^6, 4 * 10^6); put(0, 39486); ask(0, 0, 0, 1) = 1; sum(1) = 10000; pool(0) = 1010000 | 3960514 | 2000000

            fee(0, 10^6 - 1, 10^6); open(0, 10, 30); put(0, 1); ask(0, 0, 0, 1) = 1; sum(1) = 10^7 / 29 + 1
            """);
        say("(NONE: what is got, or asked for, is 0.)", """
            open(0, 10, 10); !give(0, 0, 5, 1) = NONE; !ask(0, 0, 5, 1) = NONE; !give(0, 1, 5, 1) = NONE; !ask(0, 1, 5, 1) = NONE

            open(0, 10, 10); put(0, 1); !give(0, 0, 0, 1) = NONE; put(0, 2); give(0, 0, 0, 1) = 1; sum(1) = 1

            open(0, 99, 100); put(0, 1); give(0, 0, 0, 1) = 1; sum(1) = 1; fee(0, 0, 1); open(0, 100, 100); !give(0, 0, 0, 1) = NONE

            open(0, 100, 2); put(0, 1); ask(0, 0, 0, 1) = 1; sum(1) = 100
            """);
        say("OVER: x would not be below 2^100.", """
            open(0, 100, 100); set(0, 2^100 - 101); set(1, 2^100 - 100); !give(0, 0, 1, 2) = OVER; !give(0, 1, 1, 2) = OVER
            give(0, 0, 0, 2) = 1; sum(2) = 99; pool(0) = 2^100 - 1 | 1 | 100

            open(0, (2^100 - 1) / 3, 3); put(0, 2); ask(0, 0, 0, 1) = 1; sum(1) = (2^100 - 1) / 3 * 2; see(0, 0, 1); sum(1) = 2^100 - 1

            open(0, (2^100 - 1) / 3 + 1, 3); put(0, 2); !ask(0, 0, 0, 1) = OVER

            open(0, 2^99, 2); put(0, 1); !ask(0, 0, 0, 1) = OVER

            open(0, 2, 2^99); put(0, 1); !ask(0, 1, 0, 1) = OVER

            open(0, 2, 2^99 - 1); put(0, 1); ask(0, 1, 0, 1) = 1; sum(1) = 2^99 - 1; see(0, 1, 1); sum(1) = 2^100 - 2

            fee(0, 10^6 - 1, 10^6); open(0, 2^80, 2^80); set(0, 2^80 - 1); !ask(0, 0, 0, 1) = OVER
            """);
        say("JOINED with d, e: without PARTS the new PARTS are the root of d e, DOWN (NONE: 0);", """
            open(0, 1, 1); sum(14) = 1; fee(0, 0, 1); open(0, 1, 3); sum(14) = 1; fee(0, 0, 1); open(0, 2, 2); sum(14) = 2
            fee(0, 0, 1); open(0, 1, 4); sum(14) = 2; fee(0, 0, 1); open(0, 2, 4); sum(14) = 2; fee(0, 0, 1); open(0, 3, 3); sum(14) = 3

            open(0, 3, 5); sum(14) = 3; fee(0, 0, 1); open(0, 4, 6); sum(14) = 4; fee(0, 0, 1); open(0, 5, 7); sum(14) = 5
            fee(0, 0, 1); open(0, 255, 257); sum(14) = 255; fee(0, 0, 1); open(0, 65535, 65537); sum(14) = 65535

            put(0, 5); !join(0, 0, 1, 2) = NONE; !join(0, 1, 0, 2) = NONE; !join(0, 1, 1, 2) = NONE

            open(0, 2^100 - 1, 2^100 - 1); sum(14) = 2^100 - 1; fee(0, 0, 1); open(0, 2^100 - 1, 2^100 - 2); sum(14) = 2^100 - 2
            fee(0, 0, 1); open(0, 2^50, 2^50); sum(14) = 2^50; fee(0, 0, 1); open(0, 2^50 - 1, 2^50 + 1); sum(14) = 2^50 - 1

            open(0, 2^99, 2^100 - 1); sum(14) = root(2^99 * (2^100 - 1)); fee(0, 0, 1); open(0, 10^30, 3); sum(14) = root(3 * 10^30)

            open(0, 9, 4); leave(0, 14, 1, 2); open(0, 1, 9); sum(14) = 3; pool(0) = 1 | 9 | 3
            """);
        say("else the lesser of d P / x and e P / y (P being PARTS), DOWN both (NONE: 0),", """
            open(0, 10, 40); put(0, 1); put(1, 4); join(0, 0, 1, 2) = 1; sum(2) = 2; pool(0) = 11 | 44 | 22

            open(0, 10, 40); put(0, 5); put(1, 4); join(0, 0, 1, 2) = 1; sum(2) = 2; pool(0) = 15 | 44 | 22

            open(0, 10, 40); put(0, 1); put(1, 9); join(0, 0, 1, 2) = 1; sum(2) = 2; pool(0) = 11 | 49 | 22

            open(0, 10, 40); put(0, 1); put(1, 3); join(0, 0, 1, 2) = 1; sum(2) = 1; pool(0) = 11 | 43 | 21

            open(0, 10, 40); put(0, 9); put(1, 1); !join(0, 0, 1, 2) = NONE; !join(0, 3, 0, 2) = NONE; !join(0, 0, 3, 2) = NONE

            open(0, 40, 10); put(0, 1); put(1, 9); !join(0, 0, 1, 2) = NONE; put(0, 2); join(0, 0, 1, 2) = 1; sum(2) = 1

            open(0, 2^98, 2^99); set(0, 2^98); set(1, 2^99 - 1); join(0, 0, 1, 2) = 1
            sum(2) = (2^99 - 1) * root(2^197) / 2^99; pool(0) = 2^99 | 2^100 - 1 | root(2^197) + (2^99 - 1) * root(2^197) / 2^99
            """);
        say("x and y growing by d and e", """
            open(0, 100, 100); put(0, 1); put(1, 50); join(0, 0, 1, 2) = 1; sum(2) = 1; pool(0) = 101 | 150 | 101
            !join(0, 1, 0, 2) = NONE

            open(0, 100, 100); put(0, 50); put(1, 1); join(0, 0, 1, 0) = 1; sum(0) = 1; pool(0) = 150 | 101 | 101

            open(0, 100, 100); put(0, 7); join(0, 0, 0, 0) = 1; sum(0) = 7; pool(0) = 107 | 107 | 107
            """);
        say("(OVER as above, or if PARTS would not be below 2^100).", """
            open(0, 2^99, 2^99); set(0, 2^99 - 1); set(1, 2^99); !join(0, 0, 1, 2) = OVER; !join(0, 1, 0, 2) = OVER
            !join(0, 1, 1, 2) = OVER; join(0, 0, 0, 2) = 1; sum(2) = 2^99 - 1; pool(0) = 2^100 - 1 | 2^100 - 1 | 2^100 - 1

            open(0, 2^99, 10); set(0, 2^98); set(1, 2^99); join(0, 0, 1, 2) = 1; sum(2) = root(10 * 2^99) / 2; open(1, 10, 2^99); join(1, 1, 0, 2) = 1

            open(0, 2^100 - 1, 2^100 - 1); put(0, 1); !join(0, 0, 0, 1) = OVER; !join(0, 0, 2, 1) = OVER; !join(0, 2, 0, 1) = OVER
            !join(0, 2, 2, 1) = NONE
            """);
        say("LEFT with s of P PARTS (1 .. P, else LESS): x s / P and y s / P come out, DOWN;", """
            open(0, 9, 4); put(0, 7); !leave(0, 0, 1, 2) = LESS; set(0, TOP); !leave(0, 0, 1, 2) = LESS; put(0, 6)
            leave(0, 0, 1, 2) = 1; sum(1) = 9; sum(2) = 4

            open(0, 9, 4); put(0, 1); leave(0, 0, 1, 2) = 1; sum(1) = 1; sum(2) = 0; pool(0) = 8 | 4 | 5

            open(0, 9, 4); put(0, 2); leave(0, 0, 1, 2) = 1; sum(1) = 3; sum(2) = 1; pool(0) = 6 | 3 | 4

            open(0, 9, 4); put(0, 5); leave(0, 0, 1, 2) = 1; sum(1) = 7; sum(2) = 3; pool(0) = 2 | 1 | 1

            put(0, 1); !leave(0, 0, 1, 2) = LESS

            open(0, 2^100 - 1, 2^100 - 2); set(0, 2^100 - 3); leave(0, 0, 1, 2) = 1
            sum(1) = (2^100 - 1) * (2^100 - 3) / (2^100 - 2); sum(2) = 2^100 - 3; pool(0) = 2 | 1 | 1
            """);
        say("with all of them the POOL is empty.", """
            open(0, 9, 4); leave(0, 14, 1, 2) = 1; sum(1) = 9; sum(2) = 4; pool(0) = 0 | 0 | 0; put(0, 1); !give(0, 0, 0, 1) = NONE
            !ask(0, 0, 0, 1) = LESS; !leave(0, 0, 1, 2) = LESS; fee(0, 0, 1) = 0

            open(3, 1, 2^100 - 1); leave(3, 14, 1, 2) = 1; sum(1) = 1; sum(2) = 2^100 - 1; pool(3) = 0 | 0 | 0
            """);
    }

    private static void rowsOfActs() {
        say("A ROW OF ACTS (12 at most)", """
            put(0, 1); later(0, 0, 0, 0) = 1; later(0, 0, 0, 0) = 2; later(0, 0, 0, 0) = 3; later(0, 0, 0, 0) = 4
            later(0, 0, 0, 0) = 5; later(0, 0, 0, 0) = 6; later(0, 0, 0, 0) = 7; later(0, 0, 0, 0) = 8; later(0, 0, 0, 0) = 9
            later(0, 0, 0, 0) = 10; later(0, 0, 0, 0) = 11; later(0, 0, 0, 0) = 12; !later(0, 0, 0, 0) = OVER; done() = 12; sum(0) = 4096
            """);
        say("is done one by one when it is DONE;", """
            put(0, 1); later(0, 1, 0, 0); later(0, 2, 1, 1); later(1, 3, 2, 0); later(3, 4, 3, 5); later(4, 5, 4, 1)
            sum(1) = 0; done() = 5; sum(1) = 2; sum(2) = 4; sum(3) = 3; sum(4) = 8; sum(5) = 4

            put(0, 1); later(0, 1, 0, 0); put(0, 5); done() = 1; sum(1) = 10
            """);
        say("if one is refused, or throws, all REGISTERS and POOLS are as they were before the first, and its place is told;", """
            put(0, 1); put(1, 5); later(1, 2, 0, 1); later(0, 0, 0, 0); done() = -10; sum(0) = 1; sum(2) = 0

            put(0, 1); later(0, 0, 0, 0); later(0, 3, 0, 0); later(4, 4, 0, 5); done() = -12; sum(0) = 1; sum(3) = 0; sum(4) = 0

            put(0, 1); later(0, 0, 0, 0); later(0, 0, 0, 0); later(0, 0, 0, 0); later(0, 0, 0, 0); later(0, 0, 0, 0)
            later(0, 0, 0, 0); later(0, 0, 0, 0); later(0, 0, 0, 0); later(0, 0, 0, 0); later(0, 0, 0, 0); later(0, 0, 0, 0)
            later(0, 16, 0, 0); done() = -21; sum(0) = 1

            open(0, 100, 100); open(3, 10, 20); put(0, 10); later(2, 2, 0, 0); later(2, 3, 0, 3); later(0, 15, 0, 0); later(1, 1, 11, 0)
            done() = -13; sum(15) = 0; pool(0) = 100 | 100 | 100; pool(3) = 10 | 20 | 14; sum(2) = 0; sum(3) = 0

            open(1, 100, 100); open(2, 10, 20); put(0, 10); later(2, 3, 0, 1); later(2, 2, 0, 2); later(4, 1, 0, 11); done() = -12
            pool(1) = 100 | 100 | 100; pool(2) = 10 | 20 | 14; sum(2) = 0; sum(3) = 0
            """);
        say("the ROW is empty then in any case,", """
            put(0, 1); later(0, 1, 0, 0); done() = 1; done() = 0; later(0, 1, 0, 0) = 1

            put(0, 1); later(1, 1, 2, 0); later(0, 5, 0, 0); done() = -10; done() = 0; sum(5) = 0; later(0, 1, 0, 0) = 1; done() = 1

            later(4, 1, 2, 3); later(0, 5, 0, 0); done() = -10; done() = 0; later(0, 1, 0, 0) = 1
            """);
        say("and TRIES is one more for each act that was begun.", """
            put(0, 1); later(0, 1, 0, 0); later(0, 1, 0, 0); tries() = 0; done() = 2; tries() = 2; done() = 0; tries() = 2
            later(0, 1, 0, 0); later(1, 1, 2, 0); later(0, 1, 0, 0); done() = -11; tries() = 4; later(4, 1, 0, 2); later(0, 1, 0, 0)
            done() = -10; tries() = 5; later(0, 16, 0, 0); done() = -10; tries() = 6; !later(5, 0, 0, 0) = BAD; done() = 0; tries() = 6
            """);
        say("ACTS: 0 add(r, a, b), 1 take(r, a, b), 2 give(b, r's lowest bit, a, r), 3 times(r, a, b, 2, 2), 4 divide(r, a, b)", """
            put(0, 10); put(1, 3); later(0, 2, 0, 1); later(1, 3, 0, 1); later(3, 4, 1, 5); later(4, 5, 0, 1); done() = 4
            sum(2) = 13; sum(3) = 7; sum(4) = 8; sum(5) = 3

            open(0, 1000, 3000); put(0, 100); later(2, 2, 0, 0); done() = 1; sum(2) = 272; pool(0) = 1100 | 2728 | 1732

            open(0, 1000, 3000); put(0, 100); later(2, 3, 0, 0); done() = 1; sum(3) = 32; pool(0) = 968 | 3100 | 1732

            open(0, 1000, 3000); put(0, 100); later(2, 11, 0, 0); later(2, 0, 0, 0); done() = 2; sum(11) = 32
            sum(0) = 3100 * 100 / (968 + 100)

            set(0, TOP); put(1, 1); later(0, 2, 0, 1); done() = -10; why() = OVER; later(1, 2, 1, 0); done() = -10; why() = LESS
            later(3, 2, 0, 3); done() = -10; why() = OVER; later(3, 2, 0, 2); done() = 1; sum(2) = TOP; later(2, 2, 0, 0); done() = -10
            why() = OVER; later(2, 2, 1, 0); done() = -10; why() = NONE
            """);
        say("(r becomes the SUM of a by that of b, DOWN; b's SUM 0: it throws).", """
            put(0, 11); put(1, 4); later(4, 2, 0, 1); done() = 1; sum(2) = 2; later(4, 2, 1, 0); done() = 1; sum(2) = 0
            later(4, 2, 0, 5); done() = -10; why() = 1; later(4, 2, 5, 5); done() = -10; why() = 1; later(4, 2, 5, 0); done() = 1; sum(2) = 0
            later(4, 16, 0, 5); done() = -10; why() = BAD; later(4, 2, -1, 5); done() = -10; why() = BAD
            """);
        say("(a, b are REGISTERS, but of 2 b is a POOL, of 3 b a number 0 .. 2^31 - 1.)", """
            later(0, 0, 16, 0); done() = -10; why() = BAD; later(0, 0, 0, 16); done() = -10; why() = BAD; later(0, 0, -1, 0); done() = -10
            why() = BAD; later(0, 0, 0, -1); done() = -10; why() = BAD; later(0, 15, 15, 15); done() = 1; why() = 0
            later(1, 0, 16, 0); done() = -10; why() = BAD; later(1, 0, 0, 16); done() = -10; why() = BAD; later(1, 15, 15, 15); done() = 1
            later(4, 0, 16, 0); done() = -10; why() = BAD; later(4, 0, 0, 16); done() = -10; why() = BAD

            open(3, 100, 100); put(0, 10); later(2, 0, 0, 4); done() = -10; why() = BAD; later(2, 0, 0, -1); done() = -10; why() = BAD
            later(2, 16, 0, 3); done() = -10; why() = BAD; later(2, -1, 0, 3); done() = -10; why() = BAD; later(2, 0, 16, 3); done() = -10
            why() = BAD; later(2, 1, 0, 3); done() = 1; sum(1) = 9

            put(0, 1); later(3, 1, 0, MAX); done() = 1; sum(1) = 2^30; later(3, 1, 0, 0); done() = 1; sum(1) = 0; later(3, 1, 0, 16)
            done() = 1; sum(1) = 8; later(3, 1, 0, 1); done() = 1; sum(1) = 1; later(3, 1, 0, -1); done() = -10; why() = BAD
            later(3, 1, 0, MIN); done() = -10; why() = BAD; later(3, 16, 0, 1); done() = -10; why() = BAD; later(3, 1, 16, 1); done() = -10
            why() = BAD
            """);
    }

    // ---- the promises

    private static void promises1to6() {
        say("All SUMS 0, no POOL is OPEN, UNIT 2, an empty ROW OF ACTS.", """
            sum(0) = 0; sum(7) = 0; sum(15) = 0; pool(0) = 0 | 0 | 0; pool(1) = 0 | 0 | 0; pool(2) = 0 | 0 | 0; pool(3) = 0 | 0 | 0

            fee(0, 0, 1) = 0; fee(1, 0, 1) = 0; fee(2, 0, 1) = 0; fee(3, 0, 1) = 0; unit(0) = 2; done() = 0; later(0, 0, 0, 0) = 1

            text(0) = '0.00'; tries() = 0; why() = 0; place() = NONE; feed('1') = 1

            out(0) = throws.ArrayIndexOutOfBoundsException; put(0, 9); !share(0, 1, 12) = NONE; read(0) = -11; place() = 0
            """);
        say("A REGISTER becomes v (0 or more): 1. BAD.", """
            put(0, 0) = 1; sum(0) = 0; put(0, 1) = 1; sum(0) = 1; put(15, LMAX) = 1; sum(15) = 2^63 - 1; put(0, 2^32) = 1; sum(0) = 2^32
            !put(0, -1) = BAD; !put(0, LMIN) = BAD; !put(16, 0) = BAD; !put(-1, 0) = BAD; !put(MIN, 0) = BAD; !put(MAX, 0) = BAD

            set(3, TOP); put(3, 0) = 1; sum(3) = 0; set(3, TOP); put(3, LMAX) = 1; sum(3) = 2^63 - 1
            """);
        say("A REGISTER's SUM times 2^32, and the 32 bits of v (without a sign): 1. BAD: REGISTER; OVER.", """
            more(0, 0) = 1; sum(0) = 0; more(0, 1) = 1; sum(0) = 1; more(0, 0) = 1; sum(0) = 2^32; more(0, -1) = 1; sum(0) = 2^64 + 2^32 - 1
            more(15, MIN) = 1; sum(15) = 2^31; more(15, MAX) = 1; sum(15) = 2^63 + 2^31 - 1; !more(16, 0) = BAD; !more(-1, 0) = BAD
            !more(MIN, 0) = BAD; !more(MAX, 0) = BAD

            set(0, 2^224 - 1); more(0, -1) = 1; sum(0) = TOP; !more(0, 0) = OVER; !more(0, -1) = OVER

            set(0, 2^224); !more(0, 0) = OVER; !more(0, 1) = OVER; set(0, 2^255); !more(0, 0) = OVER
            """);
        say("The i-th 32 bits of a SUM (0 the lowest), 0 .. 4294967295; -1: no such REGISTER, i is not 0 .. 7.", """
            set(0, TOP); limb(0, 0) = 4294967295; limb(0, 7) = 4294967295; !limb(0, 8) = -1; !limb(0, -1) = -1; !limb(0, MIN) = -1
            !limb(0, MAX) = -1; !limb(16, 0) = -1; !limb(-1, 0) = -1; !limb(MIN, 0) = -1; !limb(MAX, 0) = -1; limb(15, 0) = 0

            set(0, 1 + 2 * 2^32 + 3 * 2^64 + 4 * 2^96 + 5 * 2^128 + 6 * 2^160 + 7 * 2^192 + 2^255); limb(0, 0) = 1; limb(0, 1) = 2
            limb(0, 2) = 3; limb(0, 3) = 4; limb(0, 4) = 5; limb(0, 5) = 6; limb(0, 6) = 7; limb(0, 7) = 2147483648
            """);
        say("r becomes the SUMS of a and b together: 1. BAD; OVER.", """
            set(0, TOP - 1); put(1, 1); add(2, 0, 1) = 1; sum(2) = TOP; !add(3, 2, 1) = OVER; !add(2, 2, 2) = OVER; add(2, 2, 5) = 1
            sum(2) = TOP; add(1, 1, 1) = 1; sum(1) = 2; add(1, 5, 5) = 1; sum(1) = 0

            set(0, 2^128 - 1); put(1, 1); add(0, 0, 1) = 1; sum(0) = 2^128; set(0, 2^255); !add(0, 0, 0) = OVER

            !add(16, 0, 0) = BAD; !add(0, 16, 0) = BAD; !add(0, 0, 16) = BAD; !add(-1, 0, 0) = BAD; !add(0, -1, 0) = BAD; !add(0, 0, -1) = BAD
            !add(MIN, 0, 0) = BAD; !add(0, MAX, 0) = BAD; !add(0, 0, MIN) = BAD; add(15, 15, 15) = 1
            """);
        say("r becomes a's SUM less b's: 1. BAD; LESS.", """
            put(0, 5); put(1, 5); take(2, 0, 1) = 1; sum(2) = 0; put(1, 6); !take(2, 0, 1) = LESS; put(1, 4); take(2, 0, 1) = 1; sum(2) = 1
            take(0, 0, 0) = 1; sum(0) = 0; !take(0, 0, 1) = LESS; take(1, 1, 0) = 1; sum(1) = 4

            set(0, 2^255); put(1, 1); take(2, 0, 1) = 1; sum(2) = 2^255 - 1; !take(3, 2, 0) = LESS; set(3, TOP); take(4, 3, 3) = 1; sum(4) = 0
            take(4, 3, 5) = 1; sum(4) = TOP

            !take(16, 0, 0) = BAD; !take(0, 16, 0) = BAD; !take(0, 0, 16) = BAD; !take(-1, 0, 0) = BAD; !take(0, -1, 0) = BAD
            !take(0, 0, -1) = BAD; !take(MIN, 0, 0) = BAD; !take(0, MAX, 0) = BAD; !take(0, 0, MIN) = BAD; take(15, 15, 15) = 1
            """);
    }

    private static void promises7to12() {
        say("r becomes a's SUM times above by below, rounded by a WAY: 1.", """
            ways(7, 1, 2) = 3 | 4 | 4 | 3 | 4; ways(5, 1, 2) = 2 | 3 | 3 | 2 | 2; ways(1, 0, 9) = 0 | 0 | 0 | 0 | 0

            ways(1, 1, 3) = 0 | 1 | 0 | 0 | 0; ways(2, 1, 3) = 0 | 1 | 1 | 1 | 1; ways(3, 1, 3) = 1 | 1 | 1 | 1 | 1

            ways(1, LMAX - 1, LMAX) = 0 | 1 | 1 | 1 | 1; ways(LMAX, LMAX, LMAX) = 2^63 - 1 | 2^63 - 1 | 2^63 - 1 | 2^63 - 1 | 2^63 - 1

            put(0, 7); times(0, 0, 3, 1, 0) = 1; sum(0) = 21; times(15, 0, LMAX, 1, 4) = 1; sum(15) = 21 * (2^63 - 1)

            set(0, TOP); times(1, 0, LMAX, LMAX, 1) = 1; sum(1) = TOP; times(1, 0, 1, 1, 0) = 1; sum(1) = TOP
            times(1, 0, 1, LMAX, 1) = 1; sum(1) = TOP / (2^63 - 1) + 1
            """);
        say("BAD: REGISTERS, WAY, above or below is less than 0.", """
            put(0, 9); !times(16, 0, 1, 1, 0) = BAD; !times(-1, 0, 1, 1, 0) = BAD; !times(1, 16, 1, 1, 0) = BAD; !times(1, -1, 1, 1, 0) = BAD
            !times(1, 0, 1, 1, 5) = BAD; !times(1, 0, 1, 1, -1) = BAD; !times(1, 0, -1, 1, 0) = BAD; !times(1, 0, 1, -1, 0) = BAD
            !times(1, 0, LMIN, 1, 0) = BAD; !times(1, 0, 1, LMIN, 0) = BAD; !times(1, 0, -1, -1, 0) = BAD; !times(MIN, MAX, 1, 1, 0) = BAD
            times(1, 0, 0, 1, 0) = 1; sum(1) = 0; times(1, 0, 1, 1, 4) = 1; sum(1) = 9
            """);
        say("Arithmetic: below is 0. OVER.", """
            put(0, 9); !times(1, 0, 1, 0, 0) = throws.ArithmeticException; !times(1, 0, 0, 0, 4) = throws.ArithmeticException
            !times(1, 5, 1, 0, 0) = throws.ArithmeticException; times(1, 0, 1, 1, 0) = 1

            set(0, TOP); !times(1, 0, LMAX, LMAX - 1, 0) = OVER; !times(1, 0, 2, 1, 0) = OVER; !times(0, 0, LMAX, 1, 0) = OVER

            set(0, (2^256 * 5 - 3) / 7); times(1, 0, 7, 5, 0) = 1; sum(1) = TOP; times(1, 0, 7, 5, 3) = 1; sum(1) = TOP; !times(2, 0, 7, 5, 1) = OVER

            set(0, (2^257 - 1) / 535006138814359); times(1, 0, 535006138814359, 2, 0) = 1; sum(1) = TOP
            !times(2, 0, 535006138814359, 2, 1) = OVER; !times(2, 0, 535006138814359, 2, 2) = OVER
            times(1, 0, 535006138814359, 2, 3) = 1; sum(1) = TOP; !times(2, 0, 535006138814359, 2, 4) = OVER
            """);
        say("r becomes a's SUM, rounded by a WAY to a multiple of 10^u (u 0 .. 18): 1. BAD; OVER.", """
            rounds(14, 1) = 10 | 20 | 10 | 10 | 10; rounds(15, 1) = 10 | 20 | 20 | 10 | 20; rounds(25, 1) = 20 | 30 | 30 | 20 | 20

            rounds(16, 1) = 10 | 20 | 20 | 20 | 20; rounds(500, 3) = 0 | 1000 | 1000 | 0 | 0; rounds(7, 0) = 7 | 7 | 7 | 7 | 7

            rounds(15 * 10^17, 18) = 10^18 | 2 * 10^18 | 2 * 10^18 | 10^18 | 2 * 10^18
            rounds(5 * 10^17 - 1, 18) = 0 | 10^18 | 0 | 0 | 0; rounds(10^18, 18) = 10^18 | 10^18 | 10^18 | 10^18 | 10^18

            put(0, 9); !round(1, 0, -1, 0) = BAD; !round(1, 0, 19, 0) = BAD; !round(1, 0, MIN, 0) = BAD; !round(1, 0, MAX, 0) = BAD
            !round(16, 0, 1, 0) = BAD; !round(-1, 0, 1, 0) = BAD; !round(1, 16, 1, 0) = BAD; !round(1, -1, 1, 0) = BAD; !round(1, 0, 1, 5) = BAD
            !round(1, 0, 1, -1) = BAD; !round(MAX, MIN, 1, 0) = BAD; round(1, 0, 18, 4) = 1; sum(1) = 0; round(0, 0, 1, 2) = 1; sum(0) = 10

            set(0, TOP); !round(1, 0, 18, 1) = OVER; round(1, 0, 0, 1) = 1; sum(1) = TOP; round(1, 0, 18, 0) = 1; sum(1) = TOP / 10^18 * 10^18
            !round(0, 0, 1, 2) = OVER
            """);
        say("r becomes a's SUM by b's, DOWN: 1. BAD. Arithmetic: b's SUM is 0.", """
            put(0, 11); put(1, 4); divide(2, 0, 1) = 1; sum(2) = 2; divide(2, 1, 0) = 1; sum(2) = 0; divide(2, 1, 1) = 1; sum(2) = 1
            put(0, 12); divide(2, 0, 1) = 1; sum(2) = 3; divide(0, 0, 1) = 1; sum(0) = 3; divide(1, 0, 1) = 1; sum(1) = 0

            set(0, TOP); put(1, 1); divide(2, 0, 1) = 1; sum(2) = TOP; divide(2, 1, 0) = 1; sum(2) = 0; divide(2, 0, 0) = 1; sum(2) = 1
            set(1, 2^255); divide(2, 0, 1) = 1; sum(2) = 1; set(1, TOP - 1); divide(2, 0, 1) = 1; sum(2) = 1; divide(2, 1, 0) = 1; sum(2) = 0

            set(0, TOP); set(1, 2^128 - 1); divide(2, 0, 1) = 1; sum(2) = 2^128 + 1; set(1, 2^128); divide(2, 0, 1) = 1; sum(2) = 2^128 - 1
            set(1, 2^128 + 1); divide(2, 0, 1) = 1; sum(2) = 2^128 - 1; set(1, 2^64 + 2^63 - 1); divide(2, 0, 1) = 1; sum(2) = TOP / (2^64 + 2^63 - 1)

            set(0, 2^255); set(1, 2^127 + 1); divide(2, 0, 1) = 1; sum(2) = 2^255 / (2^127 + 1); set(0, 2^192 - 1); set(1, 2^96 - 2^31)
            divide(2, 0, 1) = 1; sum(2) = (2^192 - 1) / (2^96 - 2^31)

            put(0, 9); !divide(2, 0, 1) = throws.ArithmeticException; !divide(2, 1, 1) = throws.ArithmeticException; divide(2, 1, 0) = 1
            !divide(16, 0, 0) = BAD; !divide(2, 16, 0) = BAD; !divide(2, 0, 16) = BAD; !divide(-1, 0, 0) = BAD; !divide(2, -1, 0) = BAD
            !divide(2, 0, -1) = BAD; !divide(MIN, 0, 0) = BAD; !divide(2, MAX, 0) = BAD; !divide(2, 0, MIN) = BAD; sum(2) = 0
            """);
        say("0 a's SUM is less than b's, 1 they are alike, 2 it is greater. BAD.", """
            put(0, 5); put(1, 6); order(0, 1) = 0; order(1, 0) = 2; order(0, 0) = 1; put(1, 5); order(0, 1) = 1; order(2, 3) = 1
            set(0, TOP); set(1, TOP - 1); order(0, 1) = 2; order(1, 0) = 0; order(0, 15) = 2; order(15, 0) = 0

            set(0, 2^255); set(1, 2^255 - 1); order(0, 1) = 2; order(1, 0) = 0; set(1, 2^32); set(0, 2^32 - 1); order(0, 1) = 0

            !order(16, 0) = BAD; !order(0, 16) = BAD; !order(-1, 0) = BAD; !order(0, -1) = BAD; !order(MIN, 0) = BAD; !order(0, MAX) = BAD
            """);
        say("WEIGHT k becomes w: 1. BAD.", """
            weight(0, 0) = 1; weight(0, 1) = 1; weight(0, 10^12) = 1; weight(11, 10^12) = 1; !weight(0, 10^12 + 1) = BAD; !weight(0, -1) = BAD
            !weight(0, LMAX) = BAD; !weight(0, LMIN) = BAD; !weight(12, 1) = BAD; !weight(-1, 1) = BAD; !weight(MIN, 1) = BAD; !weight(MAX, 1) = BAD

            weight(0, 1); weight(1, 1); put(0, 12); share(0, 1, 2) = 0; sum(1) = 6; weight(1, 2) = 1; share(0, 1, 2) = 0; sum(1) = 4; sum(2) = 8
            weight(0, 0) = 1; share(0, 1, 2) = 0; sum(1) = 0; sum(2) = 12
            """);
        say("SHARES of a's SUM by the first n (1 .. 12) WEIGHTS come to REGISTERS from, from + 1, ..: how many units went to lost parts.", """
            weight(0, 1); weight(1, 1); weight(2, 1); put(0, 100); share(0, 1, 3) = 1; sum(0) = 100; sum(1) = 34; sum(2) = 33; sum(3) = 33
            put(0, 99); share(0, 13, 3) = 0; sum(13) = 33; sum(14) = 33; sum(15) = 33; put(0, 101); share(0, 0, 3) = 2; sum(0) = 34
            sum(1) = 34; sum(2) = 33

            weight(0, 1); weight(1, 2); put(2, 7); share(2, 1, 2) = 1; sum(1) = 2; sum(2) = 5; put(1, 7); share(1, 1, 2) = 1; sum(1) = 2; sum(2) = 5

            weight(0, 1); put(0, 7); share(0, 15, 1) = 0; sum(15) = 7; weight(11, 1); share(0, 4, 12) = 1; sum(4) = 4; sum(15) = 3
            """);
        say("BAD: also, they are not all REGISTERS; NONE.", """
            weight(0, 1); put(0, 9); !share(0, 1, 0) = BAD; !share(0, 1, -1) = BAD; !share(0, 1, 13) = BAD; !share(0, 0, 13) = BAD
            !share(0, 1, MIN) = BAD; !share(0, 1, MAX) = BAD; !share(16, 1, 1) = BAD; !share(-1, 1, 1) = BAD; !share(0, 16, 1) = BAD
            !share(0, -1, 1) = BAD; !share(0, 15, 2) = BAD; !share(0, 5, 12) = BAD; !share(0, MAX, 1) = BAD; !share(0, MAX, 12) = BAD
            !share(0, MIN, 1) = BAD; !share(0, -1, 2) = BAD; share(0, 4, 12) = 0; share(0, 14, 2) = 0

            put(0, 9); !share(0, 1, 1) = NONE; weight(1, 1); !share(0, 1, 1) = NONE; share(0, 1, 2) = 0; put(0, 0); weight(1, 0)
            !share(0, 1, 12) = NONE
            """);
    }

    private static void promises13to20() {
        say("How many figures a SUM has in tens (1 for 0). BAD.", """
            figures(0) = 1; put(0, 1); figures(0) = 1; put(0, 9); figures(0) = 1; put(0, 10); figures(0) = 2; put(0, 99); figures(0) = 2
            put(0, 100); figures(0) = 3; put(0, 9999); figures(0) = 4; put(0, 10000); figures(0) = 5; put(15, LMAX); figures(15) = 19

            set(0, TOP); figures(0) = 78; set(0, 10^77); figures(0) = 78; set(0, 10^77 - 1); figures(0) = 77; set(0, 10^76); figures(0) = 77
            !figures(16) = BAD; !figures(-1) = BAD; !figures(MIN) = BAD; !figures(MAX) = BAD
            """);
        say("Figure i of a SUM in tens, the lowest being 0. BAD: REGISTER. ArrayIndexOutOfBounds: it has not so many.", """
            figure(0, 0) = 0; !figure(0, 1) = throws.ArrayIndexOutOfBoundsException; !figure(0, -1) = throws.ArrayIndexOutOfBoundsException
            put(0, 1234567890); figure(0, 0) = 0; figure(0, 1) = 9; figure(0, 9) = 1; !figure(0, 10) = throws.ArrayIndexOutOfBoundsException
            !figure(0, 11) = throws.ArrayIndexOutOfBoundsException; !figure(0, 50) = throws.ArrayIndexOutOfBoundsException
            !figure(0, MAX) = throws.ArrayIndexOutOfBoundsException; !figure(0, MIN) = throws.ArrayIndexOutOfBoundsException

            set(15, TOP); figure(15, 0) = 5; figure(15, 77) = 1; figure(15, 76) = 1; figure(15, 75) = 5
            !figure(15, 78) = throws.ArrayIndexOutOfBoundsException; !figure(15, 80) = throws.ArrayIndexOutOfBoundsException
            !figure(15, 120) = throws.ArrayIndexOutOfBoundsException; !figure(15, -1) = throws.ArrayIndexOutOfBoundsException

            !figure(16, 0) = BAD; !figure(-1, 0) = BAD; !figure(16, 99) = BAD; !figure(MIN, -1) = BAD; !figure(MAX, 0) = BAD
            set(0, 10^77); figure(0, 77) = 1; figure(0, 76) = 0
            """);
        say("UNIT becomes u: what it was. BAD.", """
            unit(12) = 2; unit(0) = 12; unit(1) = 0; unit(1) = 1; !unit(13) = BAD; !unit(-1) = BAD; !unit(MIN) = BAD; !unit(MAX) = BAD; unit(2) = 1

            put(0, 1234567); unit(0); text(0) = '1,234,567'; unit(12); text(0) = '0.000001234567'; unit(2); text(0) = '12,345.67'
            """);
        say("The TEXT of a SUM to OUT: how many bytes. BAD.", """
            print(0) = 4; put(0, 99999); print(0) = 6; put(0, 100000); print(0) = 8; unit(0); print(0) = 7; put(0, 0); print(0) = 1
            unit(1); print(0) = 3; unit(12); print(0) = 14; set(15, TOP); print(15) = 100; unit(0); print(15) = 103; unit(2); print(15) = 104
            unit(1); print(15) = 104; unit(3); print(15) = 103

            put(0, 1234567); print(0) = 9; !print(16) = BAD; !print(-1) = BAD; !print(MIN) = BAD; !print(MAX) = BAD; out(0) = 49
            """);
        say("Byte i of OUT. ArrayIndexOutOfBounds: it has not so many.", """
            !out(0) = throws.ArrayIndexOutOfBoundsException; !out(-1) = throws.ArrayIndexOutOfBoundsException; print(0); out(0) = 48; out(1) = 46
            out(3) = 48; !out(4) = throws.ArrayIndexOutOfBoundsException; !out(-1) = throws.ArrayIndexOutOfBoundsException
            !out(MIN) = throws.ArrayIndexOutOfBoundsException; !out(MAX) = throws.ArrayIndexOutOfBoundsException

            put(0, 123456789); print(0) = 12; out(1) = 44; out(9) = 46; out(11) = 57; put(0, 7); unit(0); out(11) = 57; print(0) = 1; out(0) = 55
            !out(1) = throws.ArrayIndexOutOfBoundsException; !out(11) = throws.ArrayIndexOutOfBoundsException

            set(0, TOP); print(0) = 104; out(103) = 53; !out(104) = throws.ArrayIndexOutOfBoundsException
            !out(120) = throws.ArrayIndexOutOfBoundsException
            """);
        say("A byte (0 .. 255) comes behind THE TAPE: how many it has. BAD; OVER: there are 120.", """
            feed(0) = 1; feed(255) = 2; !feed(-1) = BAD; !feed(256) = BAD; !feed(MIN) = BAD; !feed(MAX) = BAD; feed('1') = 3

            feeds('1', 119) = 119; feed(255) = 120; !feed(0) = OVER; !feed(255) = OVER; !feed(256) = BAD; !feed(-1) = BAD; read(0) = -11
            place() = 119; feed('1') = 1
            """);
        say("THE TAPE is read as a TEXT: the REGISTER becomes that: 1; -10 less a FAULT. BAD (THE TAPE stays).", """
            tape('12,345.67'); read(0) = 1; sum(0) = 1234567; tape('12345.67'); read(15) = 1; sum(15) = 1234567

            put(0, 5); tape('12,345.6'); read(0) = -11; sum(0) = 5; unit(0); feeds('9', 78); read(0) = -12; sum(0) = 5; feeds('9', 77); read(0) = 1
            sum(0) = 10^77 - 1

            tape('1.0'); !read(16) = BAD; !read(-1) = BAD; !read(MIN) = BAD; !read(MAX) = BAD; feed('5') = 4; read(0) = 1; sum(0) = 105

            unit(3); tape('1.23'); read(0) = -11; place() = 4; tape('1.234'); read(0) = 1; sum(0) = 1234; unit(0); tape('1,234'); read(0) = 1; sum(0) = 1234
            """);
        say("Where the FAULT of the latest read() was; NONE: it had none, or there was none.", """
            place() = NONE; tape('1.x'); place() = NONE; read(0) = -11; place() = 2; place() = 2; tape('1.00'); place() = 2; read(0) = 1; place() = NONE
            read(0) = -11; place() = 0; !read(16) = BAD; place() = 0; unit(0); feeds('9', 99); read(0) = -12; place() = 99; !read(-1) = BAD; place() = 99
            """);
    }

    private static void promises21to26() {
        say("A POOL has this FEE, no PARTS, both sides 0: 1 if it was OPEN, else 0. BAD.", """
            fee(0, 1, 2) = 0; open(0, 1000, 1000); fee(0, 1, 3) = 1; pool(0) = 0 | 0 | 0; fee(0, 1, 3) = 0; open(0, 1000, 1000); put(0, 1000)
            give(0, 0, 0, 1) = 1; sum(1) = 1000 * 1000 * 2 / (1000 * 3 + 1000 * 2)

            open(3, 5, 5); fee(3, 0, 10^6) = 1; fee(2, 10^6 - 1, 10^6) = 0; !fee(3, 1, 1) = BAD; !fee(3, 0, 0) = BAD; !fee(3, -1, 5) = BAD
            !fee(3, 0, 10^6 + 1) = BAD; !fee(3, 10^6, 10^6) = BAD; !fee(4, 0, 1) = BAD; !fee(-1, 0, 1) = BAD; !fee(MIN, 0, 1) = BAD; !fee(MAX, 0, 1) = BAD

            open(0, 5, 5); open(1, 6, 6); fee(0, 0, 1) = 1; pool(1) = 6 | 6 | 6
            """);
        say("JOINED with the SUMS of a and b; r becomes the new PARTS: 1.", """
            put(0, 4); put(1, 9); join(0, 0, 1, 2) = 1; sum(2) = 6; sum(0) = 4; sum(1) = 9; join(0, 0, 1, 2) = 1; sum(2) = 6; pool(0) = 8 | 18 | 12

            put(0, 4); put(1, 9); join(3, 0, 1, 0) = 1; sum(0) = 6; join(3, 1, 1, 1) = 1; sum(1) = 6; pool(3) = 13 | 18 | 12

            put(15, 7); join(0, 15, 15, 15) = 1; sum(15) = 7
            """);
        say("BAD; OVER: also, one of these is not below 2^100; NONE.", """
            put(0, 4); !join(4, 0, 0, 1) = BAD; !join(-1, 0, 0, 1) = BAD; !join(0, 16, 0, 1) = BAD; !join(0, -1, 0, 1) = BAD; !join(0, 0, 16, 1) = BAD
            !join(0, 0, -1, 1) = BAD; !join(0, 0, 0, 16) = BAD; !join(0, 0, 0, -1) = BAD; !join(MIN, 0, 0, 1) = BAD; !join(0, MAX, 0, 1) = BAD

            put(0, 4); set(1, 2^100); !join(0, 0, 1, 2) = OVER; !join(0, 1, 0, 2) = OVER; !join(0, 1, 5, 2) = OVER; !join(0, 5, 1, 2) = OVER; set(1, TOP)
            !join(0, 0, 1, 2) = OVER; !join(0, 1, 1, 2) = OVER; set(1, 2^100 - 1); join(0, 0, 1, 2) = 1; sum(2) = root(4 * (2^100 - 1))

            open(0, 1, 1); set(0, 2^100 - 2); set(1, 2^100 - 1); !join(0, 0, 1, 2) = OVER; !join(0, 1, 0, 2) = OVER; join(0, 0, 0, 2) = 1
            sum(2) = 2^100 - 2; pool(0) = 2^100 - 1 | 2^100 - 1 | 2^100 - 1

            put(0, 4); !join(0, 0, 5, 1) = NONE; !join(0, 5, 0, 1) = NONE; open(0, 100, 100); !join(0, 0, 5, 1) = NONE; !join(0, 5, 0, 1) = NONE
            """);
        say("LEFT with the SUM of s; a becomes what comes out of side 0, then b what comes out of side 1: 1. BAD; LESS; NONE: the SUM of s is 0.", """
            open(0, 10, 40); put(0, 5); leave(0, 0, 1, 2) = 1; sum(0) = 5; sum(1) = 2; sum(2) = 10; pool(0) = 8 | 30 | 15

            open(0, 10, 40); put(0, 5); leave(0, 0, 1, 1) = 1; sum(1) = 10; leave(0, 0, 0, 1) = 1; sum(0) = 2; sum(1) = 10

            open(0, 10, 40); put(0, 5); leave(0, 0, 1, 0) = 1; sum(0) = 10; sum(1) = 2; put(0, 5); leave(0, 0, 0, 0) = 1; sum(0) = 10

            open(0, 10, 40); put(0, 21); !leave(0, 0, 1, 2) = LESS; put(0, 0); !leave(0, 0, 1, 2) = NONE; put(0, 1); leave(0, 0, 1, 2) = 1; sum(1) = 0
            sum(2) = 2; put(0, 20); !leave(0, 0, 1, 2) = LESS; put(0, 19); leave(0, 0, 1, 2) = 1; sum(1) = 10; sum(2) = 38

            !leave(0, 0, 1, 2) = NONE; put(0, 1); !leave(0, 0, 1, 2) = LESS; set(0, TOP); !leave(0, 0, 1, 2) = LESS

            open(0, 10, 40); put(0, 5); !leave(4, 0, 1, 2) = BAD; !leave(-1, 0, 1, 2) = BAD; !leave(0, 16, 1, 2) = BAD; !leave(0, -1, 1, 2) = BAD
            !leave(0, 0, 16, 2) = BAD; !leave(0, 0, -1, 2) = BAD; !leave(0, 0, 1, 16) = BAD; !leave(0, 0, 1, -1) = BAD; !leave(MAX, MIN, 1, 2) = BAD
            """);
        say("GIVEN a's SUM on side 0 or 1; r becomes what is GOT: 1.", """
            open(0, 100, 200); put(0, 10); give(0, 0, 0, 1) = 1; sum(0) = 10; sum(1) = 18; pool(0) = 110 | 182 | 141; give(0, 1, 0, 1) = 1; sum(1) = 5
            pool(0) = 105 | 192 | 141

            open(3, 100, 200); put(15, 10); give(3, 1, 15, 15) = 1; sum(15) = 4; pool(3) = 96 | 210 | 141
            """);
        say("BAD; OVER: also, a's SUM is not below 2^100; NONE: also, the POOL is not OPEN.", """
            open(0, 100, 200); put(0, 10); !give(4, 0, 0, 1) = BAD; !give(-1, 0, 0, 1) = BAD; !give(0, 2, 0, 1) = BAD; !give(0, -1, 0, 1) = BAD
            !give(0, MIN, 0, 1) = BAD; !give(0, MAX, 0, 1) = BAD; !give(0, 0, 16, 1) = BAD; !give(0, 0, -1, 1) = BAD; !give(0, 0, 0, 16) = BAD
            !give(0, 0, 0, -1) = BAD; !give(MIN, 0, 0, 1) = BAD; !give(0, 0, MAX, 1) = BAD

            set(0, 2^100); !give(0, 0, 0, 1) = OVER; !give(0, 1, 0, 1) = OVER; set(0, 2^100 - 1); !give(0, 0, 0, 1) = NONE; !give(0, 1, 0, 1) = NONE
            set(0, TOP); !give(0, 0, 0, 1) = OVER; put(0, 1); !give(0, 0, 0, 1) = NONE; put(0, 0); !give(0, 0, 0, 1) = NONE

            open(0, 1, 1); set(0, 2^100 - 1); !give(0, 0, 0, 1) = OVER; set(0, TOP); !give(0, 0, 0, 1) = OVER; set(0, 2^100 - 2); !give(0, 0, 0, 1) = NONE

            open(0, 1, 10); set(0, 2^100 - 2); give(0, 0, 0, 1) = 1; sum(1) = 9; pool(0) = 2^100 - 1 | 1 | 3
            """);
        say("ASKED for a's SUM, of the side that is not this one; r becomes what is to be given on this side: 1.", """
            open(0, 100, 200); put(0, 10); ask(0, 0, 0, 1) = 1; sum(0) = 10; sum(1) = 6; pool(0) = 106 | 190 | 141; ask(0, 1, 0, 1) = 1; sum(1) = 20
            pool(0) = 96 | 210 | 141

            open(3, 100, 200); put(15, 10); ask(3, 1, 15, 15) = 1; sum(15) = 23; pool(3) = 90 | 223 | 141
            """);
        say("BAD; OVER; LESS: a's SUM is not below that side (also of a POOL that is not OPEN); NONE: it is 0.", """
            open(0, 100, 200); put(0, 10); !ask(4, 0, 0, 1) = BAD; !ask(-1, 0, 0, 1) = BAD; !ask(0, 2, 0, 1) = BAD; !ask(0, -1, 0, 1) = BAD
            !ask(0, MIN, 0, 1) = BAD; !ask(0, MAX, 0, 1) = BAD; !ask(0, 0, 16, 1) = BAD; !ask(0, 0, -1, 1) = BAD; !ask(0, 0, 0, 16) = BAD
            !ask(0, 0, 0, -1) = BAD; !ask(MIN, 0, 0, 1) = BAD; !ask(0, 0, MAX, 1) = BAD

            open(0, 100, 200); put(0, 200); !ask(0, 0, 0, 1) = LESS; put(0, 100); !ask(0, 1, 0, 1) = LESS; set(0, 2^100); !ask(0, 0, 0, 1) = LESS
            set(0, TOP); !ask(0, 0, 0, 1) = LESS; put(0, 0); !ask(0, 0, 0, 1) = NONE; !ask(0, 1, 0, 1) = NONE; put(0, 99); ask(0, 1, 0, 1) = 1
            sum(1) = 19800; pool(0) = 1 | 20000 | 141; put(0, 1); !ask(0, 1, 0, 1) = LESS

            !ask(0, 0, 0, 1) = LESS; put(0, 1); !ask(0, 0, 0, 1) = LESS; set(0, TOP); !ask(0, 1, 0, 1) = LESS

            open(0, 2^99, 4); put(0, 2); !ask(0, 0, 0, 1) = OVER; put(0, 4); !ask(0, 0, 0, 1) = LESS; put(0, 1); ask(0, 0, 0, 1) = 1; sum(1) = 2^99 / 3 + 1
            """);
        say("r becomes side 0, 1 or (2) the PARTS of a POOL: 1. BAD.", """
            open(0, 10, 40); see(0, 0, 0) = 1; sum(0) = 10; see(0, 1, 15) = 1; sum(15) = 40; see(0, 2, 0) = 1; sum(0) = 20; see(3, 0, 0) = 1; sum(0) = 0
            !see(0, 3, 0) = BAD; !see(0, -1, 0) = BAD; !see(0, MIN, 0) = BAD; !see(0, MAX, 0) = BAD; !see(4, 0, 0) = BAD; !see(-1, 0, 0) = BAD
            !see(MIN, 0, 0) = BAD; !see(0, 0, 16) = BAD; !see(0, 0, -1) = BAD; !see(0, 0, MAX) = BAD

            set(0, TOP); see(2, 2, 0) = 1; sum(0) = 0; open(2, 5, 6); see(2, 1, 0); add(0, 0, 0); see(2, 1, 1); sum(1) = 6; sum(0) = 12
            """);
    }

    private static void promises27to30() {
        say("An ACT more (0 .. 4) behind the ROW: how many there are. BAD: act; OVER: there are 12.", """
            !later(5, 0, 0, 0) = BAD; !later(-1, 0, 0, 0) = BAD; !later(MIN, 0, 0, 0) = BAD; !later(MAX, 0, 0, 0) = BAD; later(0, 0, 0, 0) = 1
            later(1, 0, 0, 0) = 2; later(2, 0, 0, 0) = 3; later(3, 0, 0, 0) = 4; later(4, 0, 0, 0) = 5; !later(5, 0, 0, 0) = BAD; done() = -12

            later(0, 1, 1, 1) = 1; later(0, 1, 1, 1) = 2; later(0, 1, 1, 1) = 3; later(0, 1, 1, 1) = 4; later(0, 1, 1, 1) = 5; later(0, 1, 1, 1) = 6
            later(0, 1, 1, 1) = 7; later(0, 1, 1, 1) = 8; later(0, 1, 1, 1) = 9; later(0, 1, 1, 1) = 10; later(0, 1, 1, 1) = 11; later(0, 1, 1, 1) = 12
            !later(1, 2, 3, 4) = OVER; !later(4, 2, 3, 4) = OVER; !later(5, 0, 0, 0) = BAD; done() = 12; later(0, 1, 1, 1) = 1
            """);
        say("(The numbers are looked at when it is done.)", """
            later(0, 16, -1, 99) = 1; later(2, MIN, MAX, -1) = 2; later(3, 0, 0, -1) = 3; later(4, 0, 0, 0) = 4; tries() = 0; why() = 0; done() = -10
            why() = BAD; tries() = 1

            later(4, 1, 0, 2) = 1; put(2, 5); put(0, 11); done() = 1; sum(1) = 2

            later(2, 2, 0, 0) = 1; put(0, 10); open(0, 100, 100); done() = 1; sum(2) = 9
            """);
        say("The ROW is DONE: how many acts were; -10 less the place (0, 1, ..) of the one that was refused, or threw.", """
            done() = 0; later(0, 0, 0, 0); done() = 1; later(0, 0, 0, 0); later(0, 0, 0, 0); done() = 2; done() = 0

            later(0, 16, 0, 0); done() = -10; later(0, 0, 0, 0); later(4, 0, 0, 0); done() = -11; later(0, 0, 0, 0); later(0, 0, 0, 0)
            later(2, 0, 0, 0); done() = -12

            put(0, 1); later(0, 1, 0, 0); later(1, 1, 1, 0); later(1, 1, 1, 0); later(1, 1, 1, 0); later(1, 1, 1, 0); done() = -13; why() = LESS; sum(1) = 0

            put(0, 1); later(1, 1, 2, 0); later(4, 1, 2, 3); done() = -10; why() = LESS; later(4, 1, 2, 3); later(1, 1, 2, 0); done() = -10; why() = 1
            """);
        say("TRIES.", """
            tries() = 0; put(0, 1); add(1, 0, 0) = 1; tries() = 0; later(0, 1, 0, 0); tries() = 0; done(); tries() = 1; later(1, 1, 2, 0); done() = -10
            tries() = 2; tries() = 2
            """);
        say("What the latest done() failed by: BAD, OVER, LESS, NONE; 1: it threw; 0: nothing (also before one).", """
            why() = 0; put(0, 1); set(1, TOP); later(0, 2, 0, 16); why() = 0; done() = -10; why() = BAD; later(0, 2, 0, 1); why() = BAD; done() = -10
            why() = OVER; later(1, 2, 0, 1); done() = -10; why() = LESS; later(2, 2, 0, 0); done() = -10; why() = NONE; later(4, 2, 0, 3); done() = -10
            why() = 1; later(0, 2, 0, 0); done() = 1; why() = 0

            put(0, 1); later(1, 2, 3, 0); done() = -10; why() = LESS; !add(16, 0, 0) = BAD; !divide(1, 0, 2) = throws.ArithmeticException; why() = LESS
            done() = 0; why() = 0

            open(0, 100, 100); set(0, 2^100); later(2, 2, 0, 0); done() = -10; why() = OVER; put(0, 10); later(2, 2, 0, 0); done() = 1; why() = 0
            """);
    }

    // ---- how runs are done

    private static void say(String sentence, String runs) {
        QUOTED.add(sentence);
        for (String run : runs.strip().split("\n\\s*\n")) {
            List<Step> steps = Step.stepsOf(run);
            try {
                doRun(sentence, steps);
            } catch (IllegalStateException e) {
                fail(sentence, run.strip() + ": " + e.getMessage());
            }
        }
    }

    private static void doRun(String sentence, List<Step> steps) {
        Run run = new Run();
        Run twin = new Run();
        boolean hasRefused = false;
        for (Step step : steps) {
            String got = run.does(step.name, step.args);
            checks++;
            if (!step.isDue(got)) {
                fail(sentence, step.text + " answered " + got);
            }
            if (step.isRefused) {
                hasRefused = true;
            } else {
                twin.does(step.name, step.args);
            }
        }
        if (hasRefused) {
            checks++;
            String with = run.stateTold();
            String without = twin.stateTold();
            if (!with.equals(without)) {
                fail(sentence, "a refused call changed something in: " + steps + "\n  with    " + with + "\n  without " + without);
            }
        }
    }

    private static void fail(String sentence, String what) {
        wrong++;
        System.out.println("'" + sentence + "'\n  " + what);
    }

    /** One call of a run, as it is written. */
    private static final class Step {
        final String text;
        final boolean isRefused;
        final String name;
        final List<String> args;
        final String due;

        private Step(String text) {
            this.text = text;
            isRefused = text.startsWith("!");
            int open = text.indexOf('(');
            int close = closing(text, open);
            name = text.substring(isRefused ? 1 : 0, open);
            String inside = text.substring(open + 1, close).strip();
            args = inside.isEmpty() ? List.of() : parts(inside, ',');
            String behind = text.substring(close + 1).strip();
            due = behind.startsWith("=") ? behind.substring(1).strip() : null;
        }

        static List<Step> stepsOf(String run) {
            List<Step> steps = new ArrayList<>();
            for (String text : parts(run.replace('\n', ';'), ';')) {
                if (!text.isEmpty()) {
                    steps.add(new Step(text));
                }
            }
            return steps;
        }

        private static int closing(String text, int open) {
            int depth = 0;
            boolean isQuoted = false;
            for (int i = open; i < text.length(); i++) {
                char c = text.charAt(i);
                isQuoted ^= c == '\'';
                depth += isQuoted ? 0 : c == '(' ? 1 : c == ')' ? -1 : 0;
                if (depth == 0 && !isQuoted) {
                    return i;
                }
            }
            throw new IllegalArgumentException("no end of " + text);
        }

        private static List<String> parts(String text, char between) {
            List<String> parts = new ArrayList<>();
            int depth = 0;
            int from = 0;
            boolean isQuoted = false;
            for (int i = 0; i < text.length(); i++) {
                char c = text.charAt(i);
                isQuoted ^= c == '\'';
                depth += isQuoted ? 0 : c == '(' ? 1 : c == ')' ? -1 : 0;
                if (c == between && depth == 0 && !isQuoted) {
                    parts.add(text.substring(from, i).strip());
                    from = i + 1;
                }
            }
            parts.add(text.substring(from).strip());
            return parts;
        }

        boolean isDue(String got) {
            if (due == null) {
                return !got.startsWith("-") && !got.startsWith("throws.");
            }
            if (due.startsWith("throws.") || due.startsWith("'")) {
                return due.equals(got);
            }
            List<String> numbers = new ArrayList<>();
            for (String number : parts(due, '|')) {
                numbers.add(Formula.valueOf(number).toString());
            }
            return String.join(" ", numbers).equals(got);
        }

        @Override
        public String toString() {
            return text;
        }
    }

    /** A new object, and how often it was called: beyond 512 calls its answers are free. */
    private static final class Run {
        private static final int MOST_CALLS = 512;
        private static final Map<String, Method> FACE = new TreeMap<>();

        static {
            for (Method method : ExactMoney.class.getMethods()) {
                FACE.put(method.getName(), method);
            }
        }

        private final ExactMoney money = new ExactMoney();
        private int calls = 0;

        /** A call of the class, or one of those that are made of them. */
        String does(String name, List<String> args) {
            switch (name) {
                case "set":
                    return set(Formula.valueOf(args.get(0)), Formula.valueOf(args.get(1)));
                case "sum":
                    return sum(Formula.valueOf(args.get(0)));
                case "pool":
                    return pool(Formula.valueOf(args.get(0)));
                case "open":
                    return open(Formula.valueOf(args.get(0)), Formula.valueOf(args.get(1)), Formula.valueOf(args.get(2)));
                case "tape":
                    boolean isText = args.get(0).startsWith("'");
                    return tape(isText ? args.get(0).substring(1, args.get(0).length() - 1) : Formula.valueOf(args.get(0)).toString());
                case "feeds":
                    return tape(args.get(0).substring(1, 2).repeat(Integer.parseInt(args.get(1))));
                case "ways":
                    return ways(args.get(0), args.get(1), args.get(2));
                case "rounds":
                    return rounds(args.get(0), args.get(1));
                case "text":
                    return text(Formula.valueOf(args.get(0)));
                case "rows":
                    return rows(Integer.parseInt(args.get(0)));
                default:
                    return call(name, args.stream().map(Formula::valueOf).toArray(BigInteger[]::new));
            }
        }

        private String call(String name, long... args) {
            return call(name, Arrays.stream(args).mapToObj(BigInteger::valueOf).toArray(BigInteger[]::new));
        }

        private String call(String name, BigInteger[] args) {
            calls++;
            if (calls > MOST_CALLS) {
                throw new IllegalStateException("too many calls");
            }
            Method method = FACE.get(name);
            Object[] given = new Object[args.length];
            for (int i = 0; i < args.length; i++) {
                boolean isInt = method.getParameterTypes()[i] == int.class;
                given[i] = isInt ? (Object) args[i].intValueExact() : (Object) args[i].longValueExact();
            }
            try {
                return method.invoke(money, given).toString();
            } catch (InvocationTargetException e) {
                return "throws." + e.getCause().getClass().getSimpleName() + (isByMachine(e.getCause()) ? " by the machine" : "");
            } catch (IllegalAccessException e) {
                throw new IllegalStateException(e);
            }
        }

        /** The class must throw by a throw statement; the machine's own exceptions are told by their texts. */
        private static boolean isByMachine(Throwable thrown) {
            String text = String.valueOf(thrown.getMessage());
            return text.equals("/ by zero") || text.matches("Index -?\\d+ out of bounds for length \\d+");
        }

        /** A REGISTER becomes any SUM. */
        private String set(BigInteger r, BigInteger sum) {
            int limbs = (sum.bitLength() + 31) / 32;
            String answer = call("put", r.longValue(), 0);
            for (int i = limbs - 1; i >= 0; i--) {
                answer = call("more", r.longValue(), sum.shiftRight(32 * i).intValue());
            }
            return answer;
        }

        /** The whole SUM of a REGISTER. */
        private String sum(BigInteger r) {
            BigInteger sum = BigInteger.ZERO;
            for (int i = 7; i >= 0; i--) {
                sum = sum.shiftLeft(32).add(new BigInteger(call("limb", r.longValue(), i)));
            }
            return sum.toString();
        }

        /** Both sides and the PARTS of a POOL, by way of REGISTER 15. */
        private String pool(BigInteger pool) {
            List<String> seen = new ArrayList<>();
            for (int what = 0; what < 3; what++) {
                call("see", pool.longValue(), what, 15);
                seen.add(sum(BigInteger.valueOf(15)));
            }
            return String.join(" ", seen);
        }

        /** A POOL is joined with two SUMS, by way of REGISTERS 12, 13 and 14. */
        private String open(BigInteger pool, BigInteger side0, BigInteger side1) {
            set(BigInteger.valueOf(12), side0);
            set(BigInteger.valueOf(13), side1);
            return call("join", pool.longValue(), 12, 13, 14);
        }

        /** Each byte of a text is fed, or each figure of a number. */
        private String tape(String text) {
            String answer = "0";
            for (int i = 0; i < text.length(); i++) {
                answer = call("feed", text.charAt(i));
            }
            return answer;
        }

        /** A SUM times above by below, rounded by each WAY, by way of REGISTERS 0 and 1. */
        private String ways(String sum, String above, String below) {
            set(BigInteger.ZERO, Formula.valueOf(sum));
            List<String> rounded = new ArrayList<>();
            for (int way = 0; way < 5; way++) {
                call("times", 1, 0, Formula.valueOf(above).longValue(), Formula.valueOf(below).longValue(), way);
                rounded.add(sum(BigInteger.ONE));
            }
            return String.join(" ", rounded);
        }

        /** A SUM rounded to a multiple of 10^u by each WAY, by way of REGISTERS 0 and 1. */
        private String rounds(String sum, String u) {
            set(BigInteger.ZERO, Formula.valueOf(sum));
            List<String> rounded = new ArrayList<>();
            for (int way = 0; way < 5; way++) {
                call("round", 1, 0, Long.parseLong(u), way);
                rounded.add(sum(BigInteger.ONE));
            }
            return String.join(" ", rounded);
        }

        /** What is printed of a REGISTER, in quotes. */
        private String text(BigInteger r) {
            int length = Integer.parseInt(call("print", r.longValue()));
            StringBuilder text = new StringBuilder("'");
            for (int i = 0; i < length; i++) {
                text.append((char) Integer.parseInt(call("out", i)));
            }
            return text.append('\'').toString();
        }

        /** So many ROWS of 12 acts are done. */
        private String rows(int count) {
            String answer = "0";
            for (int k = 0; k < count; k++) {
                for (int act = 0; act < 12; act++) {
                    call("later", 0, 1, 1, 1);
                }
                answer = call("done");
            }
            return answer;
        }

        /** What a run of calls tells of all that an object holds; it changes that. */
        String stateTold() {
            StringBuilder told = new StringBuilder();
            told.append(call("place")).append(' ').append(call("why")).append(' ').append(call("tries")).append(" OUT");
            String out = call("out", 0);
            for (int i = 1; !out.startsWith("throws."); i++) {
                told.append(' ').append(out);
                out = call("out", i);
            }
            told.append(" SUMS");
            for (int r = 0; r < 16; r++) {
                told.append(' ').append(sum(BigInteger.valueOf(r)));
            }
            tellPools(told);
            tellWeights(told);
            told.append(" UNIT ").append(call("unit", 0)).append(" TAPE ").append(call("feed", '1'));
            told.append(' ').append(call("read", 0)).append(' ').append(call("place")).append(' ').append(call("limb", 0, 0));
            told.append(" ROW ").append(call("done")).append(' ').append(call("tries"));
            for (int r = 0; r < 16; r++) {
                told.append(' ').append(call("limb", r, 0));
            }
            return told.toString();
        }

        private void tellPools(StringBuilder told) {
            told.append(" POOLS");
            for (int pool = 0; pool < 4; pool++) {
                for (int what = 0; what < 3; what++) {
                    call("see", pool, what, 15);
                    for (int i = 0; i < 4; i++) {
                        told.append(' ').append(call("limb", 15, i));
                    }
                }
                // What is got of so much shows the FEE, once the POOL is surely OPEN.
                call("put", 15, 1000000);
                told.append(' ').append(call("join", pool, 15, 15, 14)).append(' ').append(call("limb", 14, 0));
                told.append(' ').append(call("give", pool, 0, 15, 14)).append(' ').append(call("limb", 14, 0));
            }
        }

        private void tellWeights(StringBuilder told) {
            call("put", 0, 9000000000000000000L);
            told.append(" WEIGHTS ").append(call("share", 0, 0, 12));
            for (int k = 0; k < 12; k++) {
                told.append(' ').append(call("limb", k, 1)).append(' ').append(call("limb", k, 0));
            }
        }
    }

    /** Numbers as the runs write them: + - * / (DOWN) ^ ( ), 'c' for a byte, root(..) and names. */
    private static final class Formula {
        private static final Map<String, BigInteger> NAMES = Map.of(
            "BAD", BigInteger.valueOf(-1), "OVER", BigInteger.valueOf(-2), "LESS", BigInteger.valueOf(-3),
            "NONE", BigInteger.valueOf(-4), "MIN", BigInteger.valueOf(Integer.MIN_VALUE),
            "MAX", BigInteger.valueOf(Integer.MAX_VALUE), "LMIN", BigInteger.valueOf(Long.MIN_VALUE),
            "LMAX", BigInteger.valueOf(Long.MAX_VALUE), "TOP", BigInteger.ONE.shiftLeft(256).subtract(BigInteger.ONE));

        private final String text;
        private int at = 0;

        private Formula(String text) {
            this.text = text.replace(" ", "");
        }

        static BigInteger valueOf(String text) {
            if (text.startsWith("'")) {
                return BigInteger.valueOf(text.charAt(1));
            }
            Formula formula = new Formula(text);
            BigInteger value = formula.together();
            if (formula.at != formula.text.length()) {
                throw new IllegalArgumentException("not a number: " + text);
            }
            return value;
        }

        private boolean takes(char c) {
            boolean isNext = at < text.length() && text.charAt(at) == c;
            at += isNext ? 1 : 0;
            return isNext;
        }

        private BigInteger together() {
            BigInteger value = takes('-') ? product().negate() : product();
            while (true) {
                if (takes('+')) {
                    value = value.add(product());
                } else if (takes('-')) {
                    value = value.subtract(product());
                } else {
                    return value;
                }
            }
        }

        private BigInteger product() {
            BigInteger value = power();
            while (true) {
                if (takes('*')) {
                    value = value.multiply(power());
                } else if (takes('/')) {
                    value = value.divide(power());
                } else {
                    return value;
                }
            }
        }

        private BigInteger power() {
            BigInteger base = single();
            return takes('^') ? base.pow(single().intValueExact()) : base;
        }

        private BigInteger single() {
            if (takes('(')) {
                BigInteger inside = together();
                takes(')');
                return inside;
            }
            int from = at;
            while (at < text.length() && Character.isLetterOrDigit(text.charAt(at))) {
                at++;
            }
            String word = text.substring(from, at);
            if (word.equals("root")) {
                return single().sqrt();
            }
            return NAMES.containsKey(word) ? NAMES.get(word) : new BigInteger(word);
        }
    }

    // ---- the document

    /** Every quote stands in the document, and no word of its terms and promises is without one. */
    private static void compareWithDocument() throws IOException {
        if (!Files.exists(DOCUMENT)) {
            System.out.println("no document at " + DOCUMENT + ": the quotes are not compared with it");
            return;
        }
        String document = Files.readString(DOCUMENT).replaceAll("\\s+", " ");
        int from = document.indexOf("## Terms");
        int to = document.indexOf("## Not promised");
        boolean[] isQuoted = new boolean[document.length()];
        for (String quote : QUOTED) {
            int at = document.indexOf(quote);
            if (at < 0) {
                fail(quote, "does not stand in the document");
            }
            for (; at >= 0; at = document.indexOf(quote, at + 1)) {
                Arrays.fill(isQuoted, at, at + quote.length(), true);
            }
        }
        StringBuilder rest = new StringBuilder();
        for (int i = from; i < to; i++) {
            rest.append(isQuoted[i] ? '~' : document.charAt(i));
        }
        for (String unquoted : withoutFrame(rest.toString()).split("~+")) {
            if (unquoted.matches(".*[A-Za-z0-9].*")) {
                fail(unquoted, "has no run");
            }
        }
    }

    /** Headings, signatures and numbers of sections are no sentences. */
    private static String withoutFrame(String text) {
        return Pattern.compile("## Terms|## Promise \\d+: [\\w ]+? (?=`)|`\\w[^`~]*`:|```text|```|======== \\d|"
            + "Ahead of the calls .*? the interface says: ---- [\\w, ]+\\.").matcher(text).replaceAll("~");
    }

    public static void main(String[] args) throws IOException {
        wholeObjects();
        registersAndWays();
        answers();
        severalAnswers();
        refusedCalls();
        shares();
        textsAreWritten();
        textsAreRead();
        pools();
        poolsAreUsed();
        rowsOfActs();
        promises1to6();
        promises7to12();
        promises13to20();
        promises21to26();
        promises27to30();
        compareWithDocument();
        System.out.println(QUOTED.size() + " sentences, " + checks + " checks, " + wrong + " wrong");
        if (wrong != 0) {
            System.exit(1);
        }
    }
}
