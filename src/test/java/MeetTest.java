/** Sentences of several promises that meet in one run of calls; see Due for what the lines mean. */
public final class MeetTest {
    public static void main(String[] arguments) {
        textWithFaultInTheMidst();
        textWithoutFaultInTheMidst();
        runBegunAnew();
        weighedInTheMidst();
        pricesAndArguments();
        keepersAndPlaces();
        readme();
        Due.end("MeetTest");
    }

    private static void textWithFaultInTheMidst() {
        Due.play("Promise 3: load() with a FAULT, or -2, in the midst of a run: the text, its run, what is kept and watched stay", """
            text `var v;a(p){v=new[p];x=p;lock 1{t=start b(x);y=b(x);}join t;print y;}b(n){z=n*2;if(n>4){throw n;}return z;}` = 2
            price(15, 7) = 1
            argument(0, 3) = 0
            watch(0, 1, 3) = 1
            begin(0, 0, 0, 4) = 1
            run(6) = 6
            keep(0) = 1
            bound(0, 0, *) = 14 0 0 0 0
            bad `a(){^` = 1
            bad `var v;a(){print ^x;}` = 2
            load(1) = -2
            fault(*) = 2 16 -1
            member(0, *) = 6 1 4 11 16
            state(*) = 1 6 0 2 0 6
            state(7) = 1
            state(8) = 1
            state(9) = 5
            thread(0, *) = 0 2 1 4 -1 -1 6 -1 0
            thread(1, *) = 0 1 1 3 -1 -1 0 -1 0
            lock(1, *) = 0 1 0 0 0 3 1
            seen(0, *) = 4 1 40
            held(0) = -2
            kept(0, -1, *) = 1 0 1 6 6 6
            bound(0, 0, *) = 14 0 0 0 0
            run(20000) = 9
            state(*) = 2 15 -1 2 1 21
            printed(*) = 6 0
            thread(0, *) = 3 0 -1 -1 -1 -1 12 -1 3
            lock(1, *) = -1 1 0 0 0 6 1
            rows(0) = 6 2
            longest(0) = 18
            gain(15, 0) = 11
            gain(14, 5) = 26
            keep(1) = 1
            bad `a(){x=1;^` = 1
            parts(0, *) = 10 0 0 10
            parts(1, *) = 5 0 0 5
            weigh(1) = 1
            bad `^;` = 1
            way(1, 0, 4) = 2
            way(0, 0, 4) = 1
            parts(1, *) = 5 0 0 5
            kept(0, -1, *) = 2 0 1 6 6 12
            begin(0, 0, 0, 0) = 1
            kept(0, -1, 0) = 0
            run(6) = 6
            rows(0) = 6 1
            """);
    }

    private static void textWithoutFaultInTheMidst() {
        Due.play("Promise 3: load() without a FAULT in the midst of a run: all is gone but prices and arguments", """
            text `var v;a(p){v=new[p];x=p;lock 1{t=start b(x);y=b(x);}join t;print y;}b(n){z=n*2;if(n>4){throw n;}return z;}` = 2
            price(3, 5) = 1
            argument(0, 5) = 0
            watch(3, 0, 4) = 1
            begin(0, 0, 0, 0) = 1
            run(1) = 1
            keep(0) = 1
            look() = 0
            run(20000) = 10
            state(*) = 2 11 -1 2 0 35
            thrown(0, *) = 2 0 3 2
            lock(1, *) = -1 1 0 0 0 5 1
            kept(3, -1, *) = 1 0 1 5 5 5
            keep(1) = 1
            parts(0, *) = 16 0 0 16
            weigh(1) = 1
            begin(0, 0, 0, 0) = 1
            run(4) = 4
            text `a(p){x=p;}` = 1
            fault(*) = 0 -1 -1
            member(0, *) = 0 1 2 4 3 0 2 2
            member(1, 0) = -1
            weights(0) = 1 0 / 1 1 / 0 1
            state(*) = 0 -1 -1 -1 -1 -1 -1 -1 -1 -1
            run(1) = -1
            printed(0) = 0
            thread(0, 0) = -1
            count(0, 0) = -1
            gone(0, 0) = -1
            most(0, 0) = -1
            tree(0, 0) = -1
            look() = -1
            seen(0, 0) = -1
            made(0, 0) = -1
            held(0) = -1
            lock(1, 1) = -1
            longest(0) = -1
            gain(3, 1) = -1
            thrown(0, 0) = -1
            kept(3, -1, *) = 0 0 0 0 0 0
            keep(0) = -1
            parts(0, *) = 0 0 0 0
            path(0, *, -1) = 2 2 -1
            bound(0, 0, 0) = 1
            begin(0, 0, 0, 0) = 1
            run(9) = 1
            state(*) = 2 1 -1 1 0 5
            kept(3, -1, 0) = 0
            count(0, *) = 1 1 0 -1
            keep(1) = 1
            parts(0, *) = 0 0 0 0
            keep(0) = 1
            argument(0, 2) = 5
            price(3, 1) = 5
            """);
    }

    private static void runBegunAnew() {
        Due.play("Promise 11: begin() in the midst of a run, of one that is STUCK, of one that has ENDED by failure", """
            text `var v;a(p){v=p;w=v;lock 2{t=start b(w);if(p>1){join t;}throw p;}}b(n){for i=1 to n{v=new[i];}lock 2{print n;}}` = 2
            argument(0, 2) = 0
            watch(0, 0, 3) = 1
            begin(0, 0, 0, 2) = 1
            run(20000) = 13
            state(*) = 3 13 -1 2 0 13
            thread(0, *) = 2 1 0 8 1 1 6 -1 7
            thread(1, *) = 1 1 1 6 2 0 7 -1 0
            state(8) = 6
            loop(1, 0, *) = 4 1 2 2 2 1 0 0 0
            made(1, *) = 1 5 2 32 11 11 -1
            made(0, 6) = 5
            rows(0) = 2 1
            argument(0, 1) = 2
            begin(0, 0, 0, 0) = 1
            state(*) = 1 0 0 1 0 0
            state(7) = 0
            state(8) = 0
            state(9) = 3
            thread(1, 0) = -1
            lock(2, *) = -1 0 0 0 0 0 0
            loop(1, 0, *) = 4 0 0 -1 -1 0 0 0 0
            made(0, 0) = -1
            seen(-1, 0) = -1
            kept(0, -1, *) = 0 0 0 0 0 0
            held(0) = -1
            run(5) = 5
            thrown(0, 0) = 0
            run(1) = 1
            thrown(0, *) = 1 0 1 1
            thread(0, *) = 4 0 -1 -1 -1 -1 6 0 0
            lock(2, *) = -1 1 0 0 0 3 1
            run(20000) = 7
            state(*) = 2 13 -1 2 1 13
            printed(*) = 1 0
            lock(2, *) = -1 2 0 0 0 5 3
            begin(1, 0, 0, 0) = 1
            thrown(0, *) = 0 0 0 0
            printed(0) = 0
            thread(0, *) = 0 1 1 3 -1 -1 0 -1 0
            kept(0, -1, 0) = 0
            count(0, 0) = 0
            count(1, 0) = 1
            begin(2, 0, 0, 0) = -1
            begin(0, -1, 0, 0) = -1
            begin(0, 0, 2, 0) = -1
            begin(0, 0, 0, -1) = -1
            run(20000) = 7
            printed(*) = 1 0
            """);
    }

    private static void weighedInTheMidst() {
        Due.play("Promise 8: weigh() in the midst of a run: what is kept, watched and set stays, PROBES of the next runs are by it", """
            text `a(p){while(p>0){if(p%2){x=p;}p=p-1;}}` = 1
            weights(0) = 1 0 / 10 0 / 1 1 / 0 1 / 10 0 / 10 0 / 0 1 / 10 1 / 0 1 / 10 1 / 0 1
            argument(0, 5) = 0
            price(6, 3) = 1
            watch(2, 0, 5) = 1
            begin(0, 0, 0, 0) = 1
            run(8) = 8
            count(0, *) = 1 3 0 0 1 1 0 1 0 2 0
            state(6) = 3
            keep(0) = 1
            weigh(1) = 1
            state(0) = 0
            count(0, 0) = -1
            weigh(1) = -1
            weights(0) = 1 0 / 3 0 / 0 1 / 0 1 / 1 0 / 1 1 / 0 1 / 1 1 / 0 1 / 2 0 / 0 1
            member(0, 7) = 7
            rows(2) = 5 1
            begin(0, 0, 0, 0) = 1
            weights(0) = 1 0 / 3 0 / 0 1 / 0 1 / 1 0 / 1 1 / 0 1 / 1 1 / 0 1 / 2 0 / 0 1
            kept(2, -1, 2) = 0
            run(20000) = 19
            state(6) = 6
            rows(2) = 1 1 / 3 1 / 5 1
            keep(1) = 1
            parts(0, *) = 23 0 0 23
            weigh(0) = 1
            weights(0) = 1 0 / 10 0 / 1 1 / 0 1 / 10 0 / 10 0 / 0 1 / 10 1 / 0 1 / 10 1 / 0 1
            parts(0, *) = 23 0 0 23
            rows(2) = 1 1 / 3 1 / 5 1
            argument(0, 4) = 5
            begin(0, 0, 0, 0) = 1
            run(20000) = 15
            state(5) = 33
            """);
    }

    private static void pricesAndArguments() {
        Due.play("Promises 9, 10: prices and arguments changed ahead of begin() count, those changed behind it in the next run", """
            text `a(p,q){x=new[p];print q;}b(p){print p;}` = 2
            price(17, 2) = 0
            argument(0, 4) = 0
            argument(1, 9) = 0
            begin(0, 0, 0, 0) = 1
            price(17, 100) = 2
            price(3, 50) = 1
            argument(1, 8) = 9
            run(1) = 1
            price(15, 3) = 1
            run(9) = 1
            state(5) = 10
            printed(*) = 9 0
            longest(0) = 10
            longest(3) = 10
            gain(3, 1) = 10
            gain(17, 100) = 402
            gain(15, 3) = 12
            tree(2, *) = 0 0 1 10 10 -1 -1
            begin(0, 0, 0, 0) = 1
            run(9) = 2
            state(5) = 453
            printed(*) = 8 0
            gain(17, 2) = 61
            begin(1, 0, 0, 0) = 1
            argument(0, 7) = 4
            run(9) = 1
            state(5) = 3
            printed(*) = 4 0
            weigh(0) = 1
            begin(1, 0, 0, 0) = 1
            run(9) = 1
            printed(*) = 7 0
            price(3, -1) = -1
            argument(1, -2147483648) = -1
            price(3, 0) = 50
            argument(1, -2147483647) = 8
            """);
    }

    private static void keepersAndPlaces() {
        Due.play("Promises 30 to 33: keepers and places over several runs", """
            text `a(p){for i=1 to p{x=i%3;b(i);}}b(n){y=n;}` = 2
            watch(0, 0, 5) = 1
            watch(1, 1, 3) = 1
            watch(2, 1, 3) = 1
            argument(0, 4) = 0
            begin(0, 0, 0, 0) = 1
            run(20000) = 18
            kept(0, -1, *) = 4 0 3 0 2 4
            rows(0) = 1 2 / 0 1 / 2 1
            rows(1) = 1 1 / 2 1 / 3 1 / 4 1
            rows(2) = 1 1 / 2 1 / 3 1 / 4 1
            parts(0, *) = 0 0 0 0
            keep(0) = 1
            argument(0, 6) = 4
            begin(0, 0, 0, 0) = 1
            kept(0, -1, *) = 0 0 0 0 0 0
            kept(2, 0, *) = 0 0 0
            run(20000) = 26
            kept(1, -1, *) = 6 0 6 1 6 21
            keep(1) = 1
            parts(0, *) = 6 0 0 6
            parts(1, *) = 2 2 0 0
            begin(1, 0, 0, 0) = 1
            parts(0, *) = 6 0 0 6
            run(20000) = 1
            keep(0) = 1
            parts(0, *) = 20 0 20 0
            parts(1, *) = 5 5 0 0
            watch(1, 0, 5) = 1
            kept(1, -1, 0) = 0
            rows(2) = 6 1
            begin(0, 0, 0, 0) = 1
            run(3) = 3
            rows(1) = 1 1
            rows(0) = 1 1
            kept(2, -1, 0) = 0
            keep(2) = -1
            keep(1) = 1
            parts(0, *) = 3 0 3 0
            parts(1, *) = -1 -1 0 0
            """);
    }

    private static void readme() {
        Due.play("README.md: the calls of its examples, in their order", """
            feed(1630040105, 2070030448, 691757608, 841563005, 1646816809) = 20
            feed(2070966889, 1853104238, 998047744, 0, 0) = 40
            load(30) = 2
            fault(0) = 0
            member(0, 3) = 5
            node(0, 3, 1) = 5
            bound(0, 0, 0) = 4
            argument(0, 7) = 0
            price(15, 10) = 1
            begin(0, 0, 0, 0) = 1
            run(1) = 1
            state(0) = 1
            run(20000) = 3
            state(0) = 2
            printed(0) = 7
            state(5) = 22
            tree(3, 2) = 2
            count(1, 0) = 2
            weigh(1) = 1
            """);
    }
}
