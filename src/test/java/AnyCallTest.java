import java.util.Random;

/** No call throws or fails to end, for any arguments in any state: texts, good and bad, and calls by chance. */
public final class AnyCallTest {
    private static final String[] PIECES = {
        "a", "b", "c", "v", "f0", "1", "0", "2", "999999999", "nil", "{", "}", "(", ")", "[", "]", ",", ";", "=", "#", "<",
        "+", "-", "*", "/", "%", "&", "|", "!", "if(1){", "while(1){", "for i=0 to 3{", "return a;", "throw 1;",
        "try{", "}catch e{", "lock 1{", "join 1;", "print a;", "break;", "x=start b(1);", "a=new[3];", "a[0]=a;",
        "b(1);", "x=len a;", "}else{", " ", "\n", "abcdefghi", "1234567890", "?", "var ", "((((((((((((",
    };
    private static final int[] NUMBERS = {
        0, 1, 2, 3, 4, 5, 7, 8, 16, 17, 24, 100, 200, 399, 400, 512, 1000, 1001, 2000, 20000, 20001, 999999, 1000000,
        -1, -2, 2147483647, -2147483648, -2147483647, 65536,
    };
    private static final String[] TEXTS = {
        "var v;a(p){x=start b(p);x=start b(3);lock 1{v=new[3];v[0]=v;}join x;for i=0 to 9{try{b(i);}catch e{print e;}}}"
            + "b(n){lock n{y=new[n];if(n){b(n-1);}v[n]=y;}}",
        "a(p){while(1){x=x+1;if(x>40){break;}if(x%3=0){a(x);}}}",
        "a(p){for i=1 to p{for j=0 to p*2{b(i,j);}}}b(p,q){for k=1 to p+q{x=1;}}",
        "a(){a();}", "a(){x=start a();a();}", "a(){while(1){x=new[7];}}",
    };

    private final Random chance;
    private final MeasuringHouse house = new MeasuringHouse();

    private AnyCallTest(long seed) {
        chance = new Random(seed);
    }

    public static void main(String[] arguments) {
        for (int seed = 0; seed < 1500; seed++) {
            AnyCallTest test = new AnyCallTest(seed);
            int calls = 0;
            while (calls < 512) {
                calls += test.someCalls();
            }
        }
        Due.end("AnyCallTest");
    }

    private int number() {
        int kind = chance.nextInt(10);
        if (kind == 0) {
            return chance.nextInt();
        }
        return kind < 3 ? NUMBERS[chance.nextInt(NUMBERS.length)] : chance.nextInt(12) - 1;
    }

    private String anyText() {
        int kind = chance.nextInt(4);
        if (kind == 0) {
            return TEXTS[chance.nextInt(TEXTS.length)];
        }
        StringBuilder text = new StringBuilder(kind == 1 ? "" : "var v;a(){a=0;x=0;");
        int pieces = chance.nextInt(60);
        for (int i = 0; i < pieces; i++) {
            text.append(PIECES[chance.nextInt(PIECES.length)]);
        }
        if (kind == 2) {
            text.append("}b(p){x=p;}");
        }
        return text.length() > 2000 ? text.substring(0, 2000) : text.toString();
    }

    private int someCalls() {
        if (chance.nextInt(40) == 0) {
            String text = anyText();
            Due.load(house, text);
            return text.length() / 20 + 2;
        }
        if (chance.nextInt(20) == 0) {
            house.begin(chance.nextInt(3), chance.nextInt(3), chance.nextInt(2), chance.nextInt(4));
            house.run(chance.nextInt(300));
            return 2;
        }
        anyCall(chance.nextInt(35), number(), number(), number(), number());
        return 1;
    }

    private void anyCall(int which, int a, int b, int c, int d) {
        switch (which) {
            case 0: house.feed(a, b, c, d, number()); break;
            case 1: house.load(a); break;
            case 2: house.fault(a); break;
            case 3: house.member(a, b); break;
            case 4: house.node(a, b, c); break;
            case 5: house.way(a, b, c); break;
            case 6: house.weigh(a); break;
            case 7: house.price(a, b); break;
            case 8: house.argument(a, b); break;
            case 9: house.begin(a, b, c, d); break;
            case 10: house.run(a); break;
            case 11: house.state(a); break;
            case 12: house.printed(a); break;
            case 13: house.thread(a, b); break;
            case 14: house.count(a, b); break;
            case 15: house.gone(a, b); break;
            case 16: house.path(a, b, c); break;
            case 17: house.most(a, b); break;
            default: anyOtherCall(which, a, b, c, d);
        }
    }

    private void anyOtherCall(int which, int a, int b, int c, int d) {
        switch (which) {
            case 18: house.loop(a, b, c); break;
            case 19: house.tree(a, b); break;
            case 20: house.look(); break;
            case 21: house.seen(a, b); break;
            case 22: house.made(a, b); break;
            case 23: house.held(a); break;
            case 24: house.lock(a, b); break;
            case 25: house.longest(a); break;
            case 26: house.gain(a, b); break;
            case 27: house.thrown(a, b); break;
            case 28: house.watch(a, b, c); break;
            case 29: house.kept(a, b, c); break;
            case 30: house.keep(a); break;
            case 31: house.parts(a, b); break;
            case 32: house.bound(a, b, c); break;
            default: house.worst(a, b, c, d, number());
        }
    }
}
