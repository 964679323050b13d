import java.util.EnumMap;
import java.util.EnumSet;
import java.util.Map;
import java.util.Random;
import java.util.Set;

/**
 * What each call leaves as it was. The call is made on an object of which nothing is as at first;
 * behind it all parts are as they are due without it, but for those that the document lets it change.
 */
public final class StaysTest {
    private enum Part {
        STATUS, TEXT, FRACTION, FIRST_IMAGE, SECOND_IMAGE, PAST, VOTERS, DAY, ICE, KINDS, WEATHER, WORDS, NOTES, VOTED
    }

    private static final Set<Part> OF_IMAGES = EnumSet.range(Part.PAST, Part.VOTED);
    /** How many calls the objects have had refused as BAD, NO, FULL. */
    private static final int[] REFUSED = {3, 2, 4};
    private static final int VOTERS = 3, DRAWN = 12;
    private static final String TEXT = "lake 30;cell 5 4;week 1 2;voter 5 99 4;";

    private static final Map<Part, String> DUE = new EnumMap<>(Part.class);
    private static final Random RANDOM = new Random(9);

    public static void main(String[] args) {
        tellDue();
        for (Part part : Part.values()) {
            alike(part + " of some", seen(part, some()), DUE.get(part));
        }
        for (Calls call : Calls.values()) {
            answered(call);
            if (call.numbers() > 0) {
                bad(call);
            }
        }
        aFault();
        none();
        allFull();
        Due.end();
    }

    // ---- an object to call, and what is due of it

    private static IceVote refused() {
        IceVote x = new IceVote();
        for (int i = 0; i < REFUSED[0]; i++) {
            x.of(25, 0);
        }
        for (int i = 0; i < REFUSED[1]; i++) {
            x.undo();
        }
        for (int i = 0; i < 6 + REFUSED[2]; i++) {
            x.note(0, 0, 0, 0, 0);
        }
        x.lake(0);
        return x;
    }

    /** Images 0 and 1 are kept of lakes 0 and 1; it goes on with lake 2, and the text tells yet another one. */
    private static IceVote some() {
        IceVote x = refused();
        for (int k = 0; k <= 2; k++) {
            tell(x, k);
            if (k < 2) {
                x.image(k);
            }
        }
        for (char c : TEXT.toCharArray()) {
            x.type(c);
        }
        // Of 26 by 9 and 7: 28 with frost, 19 without.
        x.thaw(0, 54, 1, 3);
        return x;
    }

    private static void tell(IceVote x, int k) {
        x.lake(20 + k);
        x.cell(k, 1 + k);
        x.cell(24, 5);
        for (int d = 1; d < 7; d++) {
            x.weather(d, d, d);
        }
        x.weather(0, 3 + k, 1);
        x.weather(1 + k, 9, 9 - k);
        for (int w = 0; w < 4; w++) {
            x.ward(w, 20 + 10 * k + w);
        }
        x.voter(k, 40 + k, k);
        x.voter(3, 50 + k, 5);
        x.voter(5, 30, 24);
        x.note(k, 20, 3, 1, 22);
        x.note(24, 0, k, 0, k);
        x.voted(0, 1, 40, 40, 3 + k);
        x.day(1 + k);
        x.stone(7 + k);
        x.tread(10, 99);
    }

    private static void tellDue() {
        String[] ices = {
            "19 22 22 22 22 22 22 11 22 22 0 22 22 22 22 22 22 22 22 22 22 22 22 22 21 ; ",
            "24 23 24 24 24 24 24 24 12 24 0 24 24 24 24 24 24 24 24 24 24 24 24 24 23 ; ",
            "26 26 29 26 26 26 26 26 26 13 0 26 26 26 26 26 26 26 26 26 26 26 26 26 24 ; "};
        String[] kinds = {"1 0 0 ", "0 2 0 ", "0 0 3 "};
        String[] skies = {"31 99 22 33 44 55 66 ; ", "41 11 98 33 44 55 66 ; ", "51 11 22 97 44 55 66 ; "};
        String[] words = {"20 21 22 23 ; ", "30 31 32 33 ; ", "40 41 42 43 ; "};
        String[] voters = {"0 40 0 3 50 5 5 30 24 ; ", "1 41 1 3 51 5 5 30 24 ; ", "2 42 2 3 52 5 5 30 24 ; "};
        String[] notes = {"2 1 63 63 " + "63 ".repeat(22) + "; ", "2 63 1 63 " + "63 ".repeat(21) + "1 ; ",
            "2 63 63 1 " + "63 ".repeat(21) + "1 ; "};
        String[] voted = {"1 59 63 63 ; ", "1 16 63 63 ; ", "1 16 63 63 ; "};
        String[] pasts = {
            "3: 1 535 11 22 22 22, 1 546 22 22 22 22, 0 500 20 20 20 20, " + "-3 500 20 20 20 20, ".repeat(6),
            "3: 2 586 24 12 24 24, 2 598 24 24 24 24, 0 525 21 21 21 21, " + "-3 525 21 21 21 21, ".repeat(6),
            "3: 3 638 26 26 13 26, 3 651 26 26 26 26, 0 550 22 22 22 22, " + "-3 550 22 22 22 22, ".repeat(6)};
        for (int k = 0; k <= 2; k++) {
            DUE.put(Part.ICE, ices[k]);
            DUE.put(Part.KINDS, kinds[k] + "0 ".repeat(21) + "5 ; ");
            DUE.put(Part.WEATHER, skies[k]);
            DUE.put(Part.WORDS, words[k]);
            DUE.put(Part.VOTERS, voters[k]);
            DUE.put(Part.NOTES, notes[k]);
            DUE.put(Part.VOTED, voted[k]);
            DUE.put(Part.DAY, (1 + k) + " ");
            DUE.put(Part.PAST, pasts[k]);
            if (k < 2) {
                StringBuilder image = new StringBuilder("1 ");
                for (Part part : OF_IMAGES) {
                    image.append(DUE.get(part));
                }
                DUE.put(k == 0 ? Part.FIRST_IMAGE : Part.SECOND_IMAGE, image.toString());
            }
        }
        DUE.put(Part.STATUS, status(0, 0, 0));
        DUE.put(Part.FRACTION, "7 by 10");
        DUE.put(Part.TEXT, "39 4 " + "30 ".repeat(25) + "; " + "0 0 0 0 5 " + "0 ".repeat(20) + "; " + "5 99 4 ; 12 0 0 0 0 0 0 ; ");
    }

    // ---- the calls

    /** What a call that is answered may change. */
    private static Set<Part> changes(Calls call, int... numbers) {
        switch (call) {
            case LAKE:
            case READ:
            case FROM:
                return OF_IMAGES;
            case CELL:
                return EnumSet.of(Part.KINDS, Part.PAST);
            case WEATHER:
                return EnumSet.of(Part.WEATHER, Part.PAST);
            case WARD:
                return EnumSet.of(Part.WORDS, Part.PAST);
            case VOTER:
                return EnumSet.of(Part.VOTERS, Part.PAST);
            case TYPE:
            case CLEAR:
                return EnumSet.of(Part.TEXT);
            case DAY:
            case UNDO:
                return EnumSet.of(Part.ICE, Part.DAY, Part.PAST);
            case TREAD:
            case STONE:
                return EnumSet.of(Part.ICE, Part.PAST);
            case NOTE:
                return EnumSet.of(Part.NOTES);
            case VOTED:
                return EnumSet.of(Part.VOTED);
            case FORGET:
                return EnumSet.of(numbers[0] == 0 ? Part.NOTES : Part.VOTED);
            case THAW:
                return EnumSet.of(Part.FRACTION);
            case IMAGE:
                return EnumSet.of(numbers[0] == 0 ? Part.FIRST_IMAGE : Part.SECOND_IMAGE);
            default:
                return EnumSet.noneOf(Part.class);
        }
    }

    private static void answered(Calls call) {
        for (int i = 0; i < (call.numbers() == 0 ? 1 : DRAWN); i++) {
            int[] numbers = drawn(call, i);
            String told = call.promise() + ": " + call.told(numbers);
            Set<Part> changed = changes(call, numbers);
            for (Part part : Part.values()) {
                if (!changed.contains(part)) {
                    IceVote x = some();
                    call.on(x, numbers);
                    alike(part + " stays behind " + told, seen(part, x), DUE.get(part));
                }
            }
        }
    }

    /** First the least of all, then the most, then any. */
    private static int[] drawn(Calls call, int i) {
        int[] numbers = new int[call.numbers()];
        for (int j = 0; j < numbers.length; j++) {
            int least = call.least(j);
            int most = Math.min(call.most(j, VOTERS), least + 1000000);
            numbers[j] = i == 0 ? least : i == 1 ? most : least + RANDOM.nextInt(most - least + 1);
        }
        int pair = call.pair();
        if (pair >= 0 && numbers[pair] == numbers[pair + 1]) {
            numbers[pair] += numbers[pair] == 0 ? 1 : -1;
        }
        return numbers;
    }

    private static void bad(Calls call) {
        for (int j = 0; j < call.numbers(); j++) {
            int[] numbers = drawn(call, 0);
            numbers[j] = call.least(j) - 1;
            for (Part part : Part.values()) {
                IceVote x = some();
                String told = call.promise() + ": " + call.told(numbers);
                Due.due(told, call.on(x, numbers), call.bad());
                String due = part == Part.STATUS ? status(1, 0, 0) : DUE.get(part);
                alike(part + " behind " + told, seen(part, x), due);
            }
        }
    }

    private static void aFault() {
        for (Part part : Part.values()) {
            IceVote x = some();
            x.type('x');
            IceVote twin = some();
            twin.type('x');
            Due.due("9: read() of a FAULT", x.read(), -10 - (x.count(6) - 1));
            alike(part + " stays behind 9: read() of a FAULT", seen(part, x), seen(part, twin));
        }
    }

    private static void none() {
        for (Part part : Part.values()) {
            IceVote x = refused();
            Due.due("13: undo() of none", x.undo(), IceVote.NO);
            String due = part == Part.STATUS ? status(0, 1, 0) : seen(part, refused());
            alike(part + " behind 13: undo() of none", seen(part, x), due);
            for (int i = 0; i <= 1; i++) {
                x = refused();
                Due.due("40: from(" + i + ") of none", x.from(i), IceVote.NO);
                alike(part + " behind 40: from(" + i + ") of none", seen(part, x), due);
            }
        }
    }

    private static IceVote full() {
        IceVote x = refused();
        Lakes.makeFull(x);
        return x;
    }

    private static void allFull() {
        Calls[] calls = {Calls.VOTER, Calls.TYPE, Calls.NOTE, Calls.VOTED};
        for (Part part : Part.values()) {
            String due = part == Part.STATUS ? status(0, 0, 1) : seen(part, full());
            for (Calls call : calls) {
                IceVote x = full();
                int[] numbers = drawn(call, 1);
                String told = call.promise() + ": " + call.told(numbers);
                Due.due(told + " of a full one", call.on(x, numbers), IceVote.FULL);
                alike(part + " behind " + told + " of a full one", seen(part, x), due);
            }
        }
    }

    private static void alike(String what, String got, String want) {
        boolean same = got.equals(want);
        Due.due(what + (same ? "" : ", " + got + " due " + want), same ? 1 : 0, 1);
    }

    // ---- what is seen of a part; the object is used up by it

    private static String status(int bad, int no, int full) {
        return (REFUSED[0] + bad) + " " + (REFUSED[1] + no) + " " + (REFUSED[2] + full);
    }

    private static String seen(Part part, IceVote x) {
        switch (part) {
            case STATUS:
                return x.status(0) + " " + x.status(1) + " " + x.status(2);
            case TEXT:
                return x.count(6) + " " + x.read() + " " + seen(Part.ICE, x) + seen(Part.KINDS, x) + seen(Part.VOTERS, x)
                        + seen(Part.WEATHER, x);
            case FRACTION:
                return x.part(0) + " by " + x.part(1);
            case FIRST_IMAGE:
                return image(x, 0);
            case SECOND_IMAGE:
                return image(x, 1);
            case PAST:
                return past(x);
            case DAY:
                return x.count(1) + " ";
            case WEATHER:
                return listed(Calls.WEATHER, x, 7, 0, 0);
            case WORDS:
                return listed(Calls.WARD, x, 4, 0);
            case ICE:
                return listed(Calls.OF, x, 25, 1);
            case KINDS:
                return listed(Calls.OF, x, 25, 0);
            case NOTES:
                return x.count(3) + " " + listed(Calls.IS, x, 25);
            case VOTED:
                return x.count(4) + " " + listed(Calls.WHO, x, VOTERS);
            default:
                return voters(x);
        }
    }

    private static String image(IceVote x, int i) {
        StringBuilder all = new StringBuilder().append(x.from(i)).append(' ');
        for (Part part : OF_IMAGES) {
            all.append(seen(part, x));
            x.from(i);
        }
        return all.toString();
    }

    private static String past(IceVote x) {
        StringBuilder all = new StringBuilder().append(x.count(5)).append(": ");
        for (int i = 0; i <= 8; i++) {
            all.append(x.undo()).append(' ').append(x.count(2)).append(' ');
            for (int c = 7; c <= 10; c++) {
                all.append(x.of(c, 1)).append(c < 10 ? " " : ", ");
            }
        }
        return all.toString();
    }

    private static String voters(IceVote x) {
        StringBuilder all = new StringBuilder();
        for (int v = 0; v < x.count(0); v++) {
            for (int what = 0; what <= 2; what++) {
                all.append(x.about(v, what)).append(' ');
            }
        }
        return all.append("; ").toString();
    }

    /** What the call answers by 0, 1, .. and these numbers. */
    private static String listed(Calls call, IceVote x, int many, int... numbers) {
        StringBuilder all = new StringBuilder();
        int[] told = new int[1 + numbers.length];
        System.arraycopy(numbers, 0, told, 1, numbers.length);
        for (int i = 0; i < many; i++) {
            told[0] = i;
            all.append(call.on(x, told)).append(' ');
        }
        return all.append("; ").toString();
    }
}
