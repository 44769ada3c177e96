/** The boundary cases that PART 4 and promises 20 to 33 name; see Due for what the lines mean. */
public final class EdgeToldTest {
    public static void main(String[] arguments) {
        tree();
        folded();
        loops();
        looks();
        arrays();
        longest();
        workersAndGains();
        keepers();
        watched();
        parts();
        asked();
        Due.end("EdgeToldTest");
    }

    private static void tree() {
        Due.play("TREE: on OTHER, if there are 200 nodes; on p if p is OTHER; one that there is is still found", """
            text `a(){p(39);q(39);r(39);s(39);t(39);u(2);u(3);v(3);p(39);x=start v(1);}p(n){if(n>1){p(n-1);}}q(n){if(n>1){q(n-1);}}r(n){if(n>1){r(n-1);}}s(n){if(n>1){s(n-1);}}t(n){if(n>1){t(n-1);}}u(n){if(n>1){u(n-1);}}v(n){if(n>1){v(n-1);}}` = 8
            begin(0, 0, 0, 0) = 1
            run(390) = 390
            state(9) = 198
            tree(198, 0) = -1
            run(4) = 4
            state(9) = 200
            tree(1, 2) = 0
            run(20000) = 92
            state(9) = 200
            tree(0, *) = -1 -1 0 0 486 1 -1 -1
            tree(1, *) = 0 -1 5 7 7 -1 2 -1
            tree(2, *) = 0 0 1 10 479 3 -1
            tree(3, *) = 2 1 2 4 154 4 42
            tree(41, *) = 40 1 2 2 2 -1 -1
            tree(198, *) = 2 6 2 4 7 199 -1
            tree(199, *) = 198 6 2 3 3 -1 -1
            tree(200, 0) = -1
            outside tree(0..199, 0..6) = -1
            begin(0, 0, 1, 0) = 1
            run(20000) = 486
            state(9) = 11
            tree(2, *) = 0 0 1 10 485 3 10
            tree(3, *) = 2 1 78 154 154 -1 4
            tree(9, *) = 2 7 3 5 5 -1 -1
            tree(10, *) = 0 7 1 1 1 -1 -1
            tree(1, *) = 0 -1 0 0 0 -1 2
            """);
        Due.play("TREE: a new run has one of its own, with 0, the HOUSE, then 1, OTHER", """
            text `a(){b();}b(){}` = 2
            tree(0, 0) = -1
            begin(0, 0, 0, 0) = 1
            trees(3) = -1 -1 0 0 0 1 -1 / 0 -1 0 0 0 -1 2 / 0 0 1 0 0 -1 -1
            state(9) = 3
            run(1) = 1
            state(9) = 4
            begin(1, 0, 0, 0) = 1
            state(9) = 3
            tree(2, *) = 0 1 1 0 0 -1 -1
            tree(3, 0) = -1
            weigh(0) = 1
            tree(0, 0) = -1
            """);
    }

    private static void folded() {
        Due.play("TREE: with FOLD 1 on the nearest of p and those above it that has that member; 200 nodes, too", """
            text `a(){b(3);c(3);d(3);e(3);f(3);g(3);}b(n){if(n){b(n-1);c(n-1);d(n-1);e(n-1);f(n-1);g(n-1);}}c(n){if(n){b(n-1);c(n-1);d(n-1);e(n-1);f(n-1);g(n-1);}}d(n){if(n){b(n-1);c(n-1);d(n-1);e(n-1);f(n-1);g(n-1);}}e(n){if(n){b(n-1);c(n-1);d(n-1);e(n-1);f(n-1);g(n-1);}}f(n){if(n){b(n-1);c(n-1);d(n-1);e(n-1);f(n-1);g(n-1);}}g(n){if(n){b(n-1);c(n-1);d(n-1);e(n-1);f(n-1);g(n-1);}}` = 7
            begin(0, 0, 1, 0) = 1
            run(20000) = 3108
            state(9) = 200
            tree(0, *) = -1 -1 0 0 3108 1 -1
            tree(1, *) = 0 -1 913 1777 1777 -1 2
            tree(2, *) = 0 0 1 6 1331 3 -1
            tree(3, *) = 2 1 44 92 517 4 89
            tree(4, *) = 3 2 15 33 85 9 5
            tree(100, *) = 91 5 1 1 1 -1 101
            tree(175, *) = 2 3 29 77 291 176 -1
            tree(198, *) = 197 4 1 1 1 -1 199
            tree(199, *) = 197 5 1 1 1 -1 -1
            begin(0, 0, 0, 0) = 1
            run(20000) = 3108
            state(9) = 200
            tree(0, *) = -1 -1 0 0 3108 1 -1
            tree(1, *) = 0 -1 1357 2701 2701 -1 2
            tree(2, *) = 0 0 1 6 407 3 -1
            tree(3, *) = 2 1 1 7 401 4 -1
            tree(4, *) = 3 1 1 7 85 5 47
            tree(100, *) = 98 2 1 1 1 -1 101
            tree(175, *) = 169 6 1 1 1 -1 -1
            tree(198, *) = 176 4 1 7 8 199 -1
            tree(199, *) = 198 1 1 1 1 -1 -1
            """);
    }

    private static void loops() {
        Due.play("LOOPS: an ENTRY: come to, not BACK; it ends by no, BREAK, RETURN, or failure; NONE: none has ended", """
            text `a(n){for i=1 to n{if(i=3){break;}if(i=n-5){return i;}if(i=n-10){x=1/0;}}}` = 1
            begin(0, 0, 0, 0) = 1
            loop(0, 0, *) = 4 0 0 -1 -1 0 0 0 0 -1
            run(1) = 1
            loop(0, 0, *) = 4 1 0 -1 -1 0 0 0 0
            run(1) = 1
            loop(0, 0, *) = 4 1 0 0 0 1 0 0 0
            argument(0, 2) = 0
            begin(0, 0, 0, 0) = 1
            run(9) = 9
            loop(0, 0, *) = 4 1 2 -1 -1 0 0 0 0
            run(9) = 1
            loop(0, 0, *) = 4 1 2 2 2 1 0 0 0
            argument(0, 4) = 2
            begin(0, 0, 0, 0) = 1
            run(20000) = 12
            loop(0, 0, *) = 4 1 3 3 3 0 1 0 0
            argument(0, 6) = 4
            begin(0, 0, 0, 0) = 1
            run(20000) = 5
            loop(0, 0, *) = 4 1 1 1 1 0 0 1 0
            argument(0, 11) = 6
            begin(0, 0, 0, 0) = 1
            run(20000) = 6
            loop(0, 0, *) = 4 1 1 1 1 0 0 0 1
            outside loop(0..0, 0..0, 0..8) = -1
            weigh(0) = 1
            loop(0, 0, 0) = -1
            """);
        Due.play("LOOPS: a way that leaves several, and one that leaves the inner one alone", """
            text `a(){for i=1 to 2{while(1){for j=1 to 2{if(i=2){return 1;}break;}break;}}}` = 1
            begin(0, 0, 0, 0) = 1
            run(20000) = 14
            loop(0, 0, *) = 4 1 2 2 2 0 0 1 0
            loop(0, 1, *) = 5 2 2 1 1 0 1 1 0
            loop(0, 2, *) = 7 2 2 1 1 0 1 1 0
            """);
    }

    private static void looks() {
        Due.play("A LOOK (at most 400 in a run): behind steps; what comes then sees nothing", """
            text `var v;a(n){v=new[1];for i=1 to n{}v=nil;y=1;}` = 1
            argument(0, 397) = 0
            begin(0, 0, 0, 1) = 1
            run(399) = 399
            state(8) = 399
            run(20000) = 3
            state(8) = 400
            seen(399, *) = 400 1 24 -1
            seen(400, *) = -1 -1 -1
            held(0) = -1
            made(0, 6) = -1
            look() = -1
            look() = -1
            state(8) = 400
            made(0, 6) = -1
            seen(-1, *) = 0 -1 -1
            outside seen(-1..399, 0..2) = -1
            argument(0, 396) = 397
            begin(0, 0, 0, 1) = 1
            run(20000) = 401
            state(8) = 400
            seen(399, *) = 400 0 0
            made(0, 6) = 399
            """);
        Due.play("Promise 22: NONE without a run; a LOOK is by hand, ahead of any step, behind the end, twice at once", """
            look() = -1
            text `var v;a(){v=new[200];v=new[0];}` = 1
            look() = -1
            begin(0, 0, 0, 0) = 1
            look() = 0
            look() = 1
            run(1) = 1
            look() = 2
            run(9) = 1
            look() = 3
            seen(0, *) = 0 0 0
            seen(1, *) = 0 0 0
            seen(2, *) = 1 1 1616
            seen(3, *) = 2 1 16
            seen(-1, 0) = 2
            made(0, 6) = 3
            made(1, 6) = -1
            begin(0, 0, 0, 0) = 1
            seen(-1, 0) = -1
            seen(0, 0) = -1
            look() = 0
            seen(-1, 0) = 0
            weigh(0) = 1
            look() = -1
            seen(0, 0) = -1
            seen(-1, 0) = -1
            """);
    }

    private static void arrays() {
        Due.play("Promises 24, 25: NONE for others, if it is not REACHED, or there is none such", """
            made(0, 0) = -1
            held(0) = -1
            text `var v;a(){v=new[2];v[0]=new[0];x=new[1];x=0;}` = 1
            made(0, 0) = -1
            held(0) = -1
            begin(0, 0, 0, 0) = 1
            made(0, 0) = -1
            held(0) = -1
            run(20000) = 4
            made(0, *) = 0 3 2 32 1 2 -1 -1
            made(1, *) = 0 4 0 16 2 2 -1 -1
            made(2, *) = 0 5 1 24 3 3 -1 -1
            outside made(0..2, 0..6) = -1
            held(*) = -2 0 -1 -1
            outside held(0..2) = -1
            weigh(0) = 1
            made(0, 0) = -1
            held(0) = -1
            """);
        Due.play("HOLDING: the vars, then the threads in order, NAMES, then what waits; one that tells itself", """
            text `var v;a(){x=new[1];x[0]=x;v=x;x=nil;y=new[3];b(y,c(),0);}b(p,q,r){}c(){z=1;return 5;}` = 3
            begin(0, 0, 0, 0) = 1
            run(2) = 2
            held(0) = -2
            run(5) = 5
            thread(0, *) = 0 2 2 4
            held(*) = -2 -2 -1
            run(20000) = 1
            held(*) = -2 -1 -1
            """);
        Due.play("USE: an element read, put, len; making is the first; not what fails, nor =", """
            text `var v;a(){v=new[1];x=v=v;x=v[0];try{x=v[1];}catch e{}x=len v;try{v[1]=1;}catch e{}v[0]=v;x=!v;}` = 1
            begin(0, 0, 0, 0) = 1
            run(1) = 1
            made(0, 5) = 1
            run(1) = 1
            made(0, 5) = 1
            run(1) = 1
            made(0, 5) = 3
            run(2) = 2
            made(0, 5) = 3
            run(1) = 1
            made(0, 5) = 6
            run(2) = 2
            made(0, 5) = 6
            run(1) = 1
            made(0, 5) = 9
            run(9) = 1
            made(0, *) = 0 3 1 24 1 9 -1
            """);
    }

    private static void longest() {
        Due.play("LONGEST WAY: Behind itself no step is", """
            text `a(){join start e();lock f(){}}f(){lock 1{return 1;}}e(){}` = 3
            begin(0, 0, 0, 0) = 1
            run(20000) = 5
            longest(0) = 5
            gain(14, 100) = 104
            gain(12, 100) = 203
            """);
        Due.play("LONGEST WAY: one that goes on in several such nodes is behind all that they tell: the first, the second", """
            text `a(){x=start b();y=start c();$5[z=1;$]}b(){$10[p=1;$]}c(){join d();}d(){join 1;}` = 4
            begin(0, 0, 0, 0) = 1
            run(20000) = 19
            longest(0) = 12
            gain(14, 0) = 11
            text `a(){x=start b();y=start c();$15[z=1;$]}b(){$10[p=1;$]}c(){join d();}d(){join 1;}` = 4
            begin(0, 0, 0, 0) = 1
            run(20000) = 29
            longest(0) = 18
            gain(14, 0) = 17
            """);
        Due.play("LONGEST WAY: one that goes on in several such nodes: a JOIN and a LOCK", """
            text `a(){x=start b();y=start c();lock 0{$5[z=1;$]}}b(){$10[p=1;$]}c(){lock d(){}}d(){join 1;}` = 4
            begin(0, 0, 0, 0) = 1
            run(20000) = 22
            longest(0) = 13
            text `a(){x=start b();y=start c();lock 0{$15[z=1;$]}}b(){$10[p=1;$]}c(){lock d(){}}d(){join 1;}` = 4
            begin(0, 0, 0, 0) = 1
            run(20000) = 32
            longest(0) = 21
            """);
        Due.play("LONGEST WAY: a JOIN of a thread without any step is behind the one that started it", """
            text `a(){x=start b();y=start c();}b(){p=1;p=2;p=3;q=start e();}c(){join 3;}e(){}` = 4
            begin(0, 0, 0, 0) = 1
            run(20000) = 7
            longest(0) = 6
            gain(14, 50) = 55
            gain(3, 0) = 1
            """);
        Due.play("LONGEST WAY: the second step of a LOCK that waited is behind the step that let it go, the first one is not", """
            text `a(){lock 1{x=start b();join start c();}}b(){lock 1{}}c(){$9[y=1;$]}` = 3
            begin(0, 0, 0, 0) = 1
            run(20000) = 17
            thread(1, 8) = 11
            longest(0) = 16
            gain(3, 0) = 6
            gain(12, 10) = 34
            """);
        Due.play("LONGEST WAY: a JOIN of thread 0 alone", """
            text `a(){x=start b();$5[y=1;$]}b(){join 0;}` = 2
            begin(0, 0, 0, 0) = 1
            run(20000) = 7
            longest(0) = 7
            gain(14, 3) = 9
            """);
        Due.play("LONGEST WAY: without any step, so far, and of a run that is not ended", """
            text `a(){x=start b();y=1;}b(){z=1;z=2;}` = 2
            longest(0) = -1
            gain(3, 1) = -1
            begin(0, 0, 0, 0) = 1
            longest(*) = 0 0
            gain(3, 9) = 0
            run(1) = 1
            longest(*) = 1 1 1
            run(2) = 2
            longest(*) = 2 3 2
            run(9) = 1
            longest(*) = 3 4 3
            weigh(1) = 1
            longest(0) = -1
            gain(3, 1) = -1
            """);
    }

    private static void workersAndGains() {
        Due.play("Promise 27: divided by so many workers (1 .. 1000), rounded up, or the LONGEST WAY if that is greater", """
            text `a(){$7[x=start b();$]}b(){$20[y=1;$]}` = 2
            begin(0, 0, 0, 0) = 1
            run(20000) = 147
            longest(*) = 27 147 74 49 37 30 27 27
            longest(1000) = 27
            outside longest(0..1000) = -1
            """);
        Due.play("Promise 28: a KIND (3 .. 17), another price (0 .. 1000): NONE for others", """
            text `a(){x=new[2];print 1;while(0){break;}}` = 1
            begin(0, 0, 0, 0) = 1
            run(20000) = 3
            longest(0) = 3
            gain(3, 0) = 2
            gain(3, 1000) = 1002
            gain(15, 0) = 2
            gain(16, 1000) = 3
            gain(17, 0) = 3
            gain(17, 1000) = 2003
            outside gain(3..17, 0..1000) = -1
            longest(0) = 3
            state(5) = 3
            """);
    }

    private static void keepers() {
        Due.play("KEEPERS: at most 8 ROWS; if there are 8, all rows count 1 less, and those of 0 go (that is a LOSS)", """
            text `a(p){for i=1 to p{x=i;}}` = 1
            watch(0, 0, 5) = 1
            argument(0, 8) = 0
            begin(0, 0, 0, 0) = 1
            run(20000) = 18
            kept(0, -1, *) = 8 0 8 1 8 36
            rows(0) = 1 1 / 2 1 / 3 1 / 4 1 / 5 1 / 6 1 / 7 1 / 8 1
            argument(0, 9) = 8
            begin(0, 0, 0, 0) = 1
            run(20000) = 20
            kept(0, -1, *) = 9 1 0 1 9 45
            kept(0, 0, *) = 0 0
            argument(0, 10) = 9
            begin(0, 0, 0, 0) = 1
            run(20000) = 22
            kept(0, -1, *) = 10 1 1 1 10 55
            rows(0) = 10 1
            argument(0, 17) = 10
            begin(0, 0, 0, 0) = 1
            run(20000) = 36
            kept(0, -1, *) = 17 1 8 1 17 153
            argument(0, 18) = 17
            begin(0, 0, 0, 0) = 1
            run(20000) = 38
            kept(0, -1, *) = 18 2 0 1 18 171
            """);
        Due.play("KEEPERS: a LOSS of rows of more than 1", """
            text `a(p){for i=1 to p{x=i%8+(i>16)*100;}}` = 1
            watch(3, 0, 5) = 1
            argument(0, 16) = 0
            begin(0, 0, 0, 0) = 1
            run(20000) = 34
            kept(3, -1, *) = 16 0 8 0 7 56
            rows(3) = 0 2 / 1 2 / 2 2 / 3 2 / 4 2 / 5 2 / 6 2 / 7 2
            argument(0, 17) = 16
            begin(0, 0, 0, 0) = 1
            run(20000) = 36
            kept(3, -1, *) = 17 1 8 0 101 157
            rows(3) = 0 1 / 1 1 / 2 1 / 3 1 / 4 1 / 5 1 / 6 1 / 7 1
            argument(0, 18) = 17
            begin(0, 0, 0, 0) = 1
            run(20000) = 38
            kept(3, -1, *) = 18 2 0 0 102 259
            """);
        Due.play("Promise 31: 0 for others (also 3, 4 when none came)", """
            kept(0, -1, *) = 0 0 0 0 0 0 0
            text `a(){x=nil;x=-7;y=0;}` = 1
            watch(0, 0, 3) = 1
            watch(1, 0, 4) = 1
            watch(2, 0, 5) = 1
            begin(0, 0, 0, 0) = 1
            run(9) = 3
            kept(0, -1, *) = 0 0 0 0 0 0 0
            kept(1, -1, *) = 1 0 1 -7 -7 -7 0
            kept(1, 0, *) = -7 1 0
            kept(1, 1, *) = 0 0 0
            kept(1, 0, -1) = 0
            kept(1, -1, -1) = 0
            kept(1, -2, 0) = 0
            kept(1, -2147483648, 0) = 0
            kept(1, 2147483647, 0) = 0
            kept(1, 0, 2147483647) = 0
            kept(1, 0, -2147483648) = 0
            kept(1, -1, 2147483647) = 0
            kept(1, -1, -2147483648) = 0
            kept(2, -1, *) = 1 0 1 0 0 0
            kept(3, -1, *) = 0 0 0 0 0 0
            kept(4, -1, *) = 0 0 0 0 0 0
            kept(-1, -1, *) = 0 0 0 0 0 0
            kept(-1, 0, *) = 0 0
            kept(4, 0, *) = 0 0
            """);
    }

    private static void watched() {
        Due.play("Promise 30: a keeper (0 .. 3) watches a PUT; NONE if there is none such, which leaves it as it was", """
            watch(0, 0, 3) = -1
            text `var v;g(p){x=1;v[0]=p;g(x);if(p){x=2;}else{x=3;}while(p){break;}for i=1 to 2{print i;}try{throw 5;}catch e{lock 3{join 1;}}return 4;}h(){v=6;}` = 2
            watch(0, 0, *) = -1 -1 -1 1 -1 -1 -1 1 1 -1 -1 -1 -1 -1 -1 -1 -1 -1 -1 -1 -1 -1
            watch(0, 1, *) = -1 -1 -1 1 -1
            begin(1, 0, 0, 0) = 1
            run(9) = 1
            kept(0, 0, *) = 6 1
            outside watch(0..3, 0..1, 0..19) = -1
            watch(0, 1, 0) = -1
            watch(0, 1, 4) = -1
            watch(0, 2, 3) = -1
            kept(0, 0, *) = 6 1
            watch(3, 1, 3) = 1
            watch(0, 1, 3) = 1
            kept(0, 0, *) = 0 0
            begin(1, 0, 0, 0) = 1
            run(9) = 1
            kept(0, 0, *) = 6 1
            kept(3, 0, *) = 6 1
            """);
    }

    private static void parts() {
        Due.play("Promise 33: rounded down (below 0, too), 0 if it had none; what there is when a place is empty", """
            text `a(){b(1);b(2);b(1);}b(n){for i=1 to n{}}c(){b(5);}d(){$4[b(1);$]}e(){x=1;}f(){}` = 6
            parts(1, *) = 0 0 0 0
            begin(0, 0, 0, 0) = 1
            run(20000) = 13
            keep(0) = 1
            parts(1, *) = 0 0 0 0
            parts(0, *) = 0 0 0 0
            begin(2, 0, 0, 0) = 1
            run(20000) = 8
            keep(1) = 1
            parts(1, *) = -3 -7 0 4 0
            parts(0, *) = -3 -3 0 0
            parts(2, *) = 1 0 1 0
            parts(3, *) = 0 0 0 0
            begin(3, 0, 0, 0) = 1
            run(20000) = 16
            keep(1) = 1
            parts(1, *) = 2 3 0 -1
            begin(4, 0, 0, 0) = 1
            run(20000) = 1
            keep(1) = 1
            parts(1, *) = -10 -10 0 0
            parts(4, *) = 1 0 1 0
            keep(0) = 1
            begin(0, 0, 0, 0) = 1
            run(20000) = 13
            keep(1) = 1
            parts(1, *) = 10 0 10 0
            parts(5, *) = 0 0 0 0
            outside parts(0..5, 0..3) = 0
            outside keep(0..1) = -1
            parts(1, *) = 10 0 10 0
            weigh(0) = 1
            keep(0) = -1
            parts(1, *) = 10 0 10 0
            """);
        Due.play("Promise 33: 0 when a place is empty: place 0, then place 1", """
            text `a(){x=1;}` = 1
            begin(0, 0, 0, 0) = 1
            run(9) = 1
            keep(1) = 1
            parts(0, *) = 0 0 0 0
            text `a(){x=1;}` = 1
            begin(0, 0, 0, 0) = 1
            run(9) = 1
            keep(0) = 1
            parts(0, *) = 0 0 0 0
            """);
        Due.play("Promise 33: place 1 alone; Promise 32: in the run so far, calls at once, threads' first ones, too", """
            text `a(){x=start b();b();}b(){y=1;y=2;}` = 2
            keep(0) = -1
            begin(0, 0, 0, 0) = 1
            keep(1) = 1
            parts(0, *) = 0 0 0 0
            keep(0) = 1
            parts(0, *) = 0 0 0 0
            run(1) = 1
            keep(0) = 1
            parts(0, *) = -1 0 0 -1
            parts(1, *) = 0 0 0 0
            run(20000) = 5
            keep(1) = 1
            parts(0, *) = 1 0 0 1
            parts(1, *) = 4 0 0 4
            """);
    }

    private static void asked() {
        Due.play("Promises 26, 29: NONE for others, or without a run", """
            lock(0, 0) = -1
            thrown(0, 0) = -1
            text `a(){lock 0{lock 7{throw 1;}}}` = 1
            lock(0, 0) = -1
            thrown(0, 0) = -1
            begin(0, 0, 0, 0) = 1
            lock(0, *) = -1 0 0 0 0 0 0 -1
            thrown(0, *) = 0 0 0 0 -1
            thrown(9, *) = 0 0 0 0 -1
            run(9) = 3
            lock(0, *) = -1 1 0 0 0 2 1 -1
            lock(7, *) = -1 1 0 0 0 1 1 -1
            lock(6, *) = -1 0 0 0 0 0 0 -1
            thrown(0, *) = 1 0 1 1 -1
            outside lock(0..7, 0..6) = -1
            outside thrown(0..9, 0..3) = -1
            weigh(0) = 1
            lock(0, 0) = -1
            thrown(0, 0) = -1
            """);
        Due.play("Promise 26: steps done while it was had, to now", """
            text `a(){lock 7{while(1){}}}` = 1
            begin(0, 0, 0, 0) = 1
            run(1) = 1
            lock(7, 5) = 0
            run(1) = 1
            lock(7, 5) = 1
            run(20000) = 19998
            lock(7, *) = 0 1 0 0 0 19999 1
            """);
        Due.play("Promise 26: the threads that had it (bits), 8 of them", """
            text `a(){$7[x=start b();$]lock 3{}}b(){lock 3{}}` = 2
            begin(0, 0, 0, 0) = 1
            run(20000) = 23
            lock(3, *) = -1 8 0 0 0 8 255
            """);
    }
}
